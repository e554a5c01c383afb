set_option maxRecDepth 100000 in
theorem dGR_13_c_250 : (decode cX6_offer 0 = .ok (.iload_n 1, 1)) ∧ (decode cX6_offer 1 = .ok (.ifCond .lt 22, 3)) ∧ (decode cX6_offer 4 = .ok (.iload_n 1, 1)) ∧ (decode cX6_offer 5 = .ok (.aload_n 0, 1)) ∧ (decode cX6_offer 6 = .ok (.getfield 27, 3)) ∧ (decode cX6_offer 9 = .ok (.arraylength, 1)) ∧ (decode cX6_offer 10 = .ok (.if_icmp .ge 13, 3)) ∧ (decode cX6_offer 13 = .ok (.aload_n 0, 1)) ∧ (decode cX6_offer 14 = .ok (.getfield 27, 3)) ∧ (decode cX6_offer 17 = .ok (.iload_n 1, 1)) ∧ (decode cX6_offer 18 = .ok (.iaload, 1)) ∧ (decode cX6_offer 19 = .ok (.iconst 2, 1)) := by decide +kernel
theorem dX6_offer_0 : decode cX6_offer 0 = .ok (.iload_n 1, 1) := dGR_13_c_250.1
theorem dX6_offer_1 : decode cX6_offer 1 = .ok (.ifCond .lt 22, 3) := dGR_13_c_250.2.1
theorem dX6_offer_4 : decode cX6_offer 4 = .ok (.iload_n 1, 1) := dGR_13_c_250.2.2.1
theorem dX6_offer_5 : decode cX6_offer 5 = .ok (.aload_n 0, 1) := dGR_13_c_250.2.2.2.1
theorem dX6_offer_6 : decode cX6_offer 6 = .ok (.getfield 27, 3) := dGR_13_c_250.2.2.2.2.1
theorem dX6_offer_9 : decode cX6_offer 9 = .ok (.arraylength, 1) := dGR_13_c_250.2.2.2.2.2.1
theorem dX6_offer_10 : decode cX6_offer 10 = .ok (.if_icmp .ge 13, 3) := dGR_13_c_250.2.2.2.2.2.2.1
theorem dX6_offer_13 : decode cX6_offer 13 = .ok (.aload_n 0, 1) := dGR_13_c_250.2.2.2.2.2.2.2.1
theorem dX6_offer_14 : decode cX6_offer 14 = .ok (.getfield 27, 3) := dGR_13_c_250.2.2.2.2.2.2.2.2.1
theorem dX6_offer_17 : decode cX6_offer 17 = .ok (.iload_n 1, 1) := dGR_13_c_250.2.2.2.2.2.2.2.2.2.1
theorem dX6_offer_18 : decode cX6_offer 18 = .ok (.iaload, 1) := dGR_13_c_250.2.2.2.2.2.2.2.2.2.2.1
theorem dX6_offer_19 : decode cX6_offer 19 = .ok (.iconst 2, 1) := dGR_13_c_250.2.2.2.2.2.2.2.2.2.2.2
set_option maxRecDepth 100000 in
theorem dGR_13_c_251 : (decode cX6_offer 20 = .ok (.if_icmp .ne 4, 3)) ∧ (decode cX6_offer 23 = .ok (.return_, 1)) ∧ (decode cX6_offer 24 = .ok (.aload_n 0, 1)) ∧ (decode cX6_offer 25 = .ok (.getfield 27, 3)) ∧ (decode cX6_offer 28 = .ok (.iload_n 1, 1)) ∧ (decode cX6_offer 29 = .ok (.iaload, 1)) ∧ (decode cX6_offer 30 = .ok (.ifCond .ne 33, 3)) ∧ (decode cX6_offer 33 = .ok (.aload_n 0, 1)) ∧ (decode cX6_offer 34 = .ok (.getfield 27, 3)) ∧ (decode cX6_offer 37 = .ok (.iload_n 1, 1)) ∧ (decode cX6_offer 38 = .ok (.iconst 1, 1)) ∧ (decode cX6_offer 39 = .ok (.iastore, 1)) := by decide +kernel
theorem dX6_offer_20 : decode cX6_offer 20 = .ok (.if_icmp .ne 4, 3) := dGR_13_c_251.1
theorem dX6_offer_23 : decode cX6_offer 23 = .ok (.return_, 1) := dGR_13_c_251.2.1
theorem dX6_offer_24 : decode cX6_offer 24 = .ok (.aload_n 0, 1) := dGR_13_c_251.2.2.1
theorem dX6_offer_25 : decode cX6_offer 25 = .ok (.getfield 27, 3) := dGR_13_c_251.2.2.2.1
theorem dX6_offer_28 : decode cX6_offer 28 = .ok (.iload_n 1, 1) := dGR_13_c_251.2.2.2.2.1
theorem dX6_offer_29 : decode cX6_offer 29 = .ok (.iaload, 1) := dGR_13_c_251.2.2.2.2.2.1
theorem dX6_offer_30 : decode cX6_offer 30 = .ok (.ifCond .ne 33, 3) := dGR_13_c_251.2.2.2.2.2.2.1
theorem dX6_offer_33 : decode cX6_offer 33 = .ok (.aload_n 0, 1) := dGR_13_c_251.2.2.2.2.2.2.2.1
theorem dX6_offer_34 : decode cX6_offer 34 = .ok (.getfield 27, 3) := dGR_13_c_251.2.2.2.2.2.2.2.2.1
theorem dX6_offer_37 : decode cX6_offer 37 = .ok (.iload_n 1, 1) := dGR_13_c_251.2.2.2.2.2.2.2.2.2.1
theorem dX6_offer_38 : decode cX6_offer 38 = .ok (.iconst 1, 1) := dGR_13_c_251.2.2.2.2.2.2.2.2.2.2.1
theorem dX6_offer_39 : decode cX6_offer 39 = .ok (.iastore, 1) := dGR_13_c_251.2.2.2.2.2.2.2.2.2.2.2
set_option maxRecDepth 100000 in
theorem dGR_13_c_252 : (decode cX6_offer 40 = .ok (.aload_n 0, 1)) ∧ (decode cX6_offer 41 = .ok (.getfield 15, 3)) ∧ (decode cX6_offer 44 = .ok (.aload_n 0, 1)) ∧ (decode cX6_offer 45 = .ok (.getfield 30, 3)) ∧ (decode cX6_offer 48 = .ok (.iload_n 1, 1)) ∧ (decode cX6_offer 49 = .ok (.iastore, 1)) ∧ (decode cX6_offer 50 = .ok (.aload_n 0, 1)) ∧ (decode cX6_offer 51 = .ok (.dup, 1)) ∧ (decode cX6_offer 52 = .ok (.getfield 30, 3)) ∧ (decode cX6_offer 55 = .ok (.iconst 1, 1)) ∧ (decode cX6_offer 56 = .ok (.iadd, 1)) ∧ (decode cX6_offer 57 = .ok (.putfield 30, 3)) := by decide +kernel
theorem dX6_offer_40 : decode cX6_offer 40 = .ok (.aload_n 0, 1) := dGR_13_c_252.1
theorem dX6_offer_41 : decode cX6_offer 41 = .ok (.getfield 15, 3) := dGR_13_c_252.2.1
theorem dX6_offer_44 : decode cX6_offer 44 = .ok (.aload_n 0, 1) := dGR_13_c_252.2.2.1
theorem dX6_offer_45 : decode cX6_offer 45 = .ok (.getfield 30, 3) := dGR_13_c_252.2.2.2.1
theorem dX6_offer_48 : decode cX6_offer 48 = .ok (.iload_n 1, 1) := dGR_13_c_252.2.2.2.2.1
theorem dX6_offer_49 : decode cX6_offer 49 = .ok (.iastore, 1) := dGR_13_c_252.2.2.2.2.2.1
theorem dX6_offer_50 : decode cX6_offer 50 = .ok (.aload_n 0, 1) := dGR_13_c_252.2.2.2.2.2.2.1
theorem dX6_offer_51 : decode cX6_offer 51 = .ok (.dup, 1) := dGR_13_c_252.2.2.2.2.2.2.2.1
theorem dX6_offer_52 : decode cX6_offer 52 = .ok (.getfield 30, 3) := dGR_13_c_252.2.2.2.2.2.2.2.2.1
theorem dX6_offer_55 : decode cX6_offer 55 = .ok (.iconst 1, 1) := dGR_13_c_252.2.2.2.2.2.2.2.2.2.1
theorem dX6_offer_56 : decode cX6_offer 56 = .ok (.iadd, 1) := dGR_13_c_252.2.2.2.2.2.2.2.2.2.2.1
theorem dX6_offer_57 : decode cX6_offer 57 = .ok (.putfield 30, 3) := dGR_13_c_252.2.2.2.2.2.2.2.2.2.2.2
set_option maxRecDepth 100000 in
theorem dGR_13_c_253 : (decode cX6_offer 60 = .ok (.goto 24, 3)) ∧ (decode cX6_offer 63 = .ok (.iload_n 2, 1)) ∧ (decode cX6_offer 64 = .ok (.iload_n 3, 1)) ∧ (decode cX6_offer 65 = .ok (.aload_n 0, 1)) ∧ (decode cX6_offer 66 = .ok (.getfield 21, 3)) ∧ (decode cX6_offer 69 = .ok (.iload_n 1, 1)) ∧ (decode cX6_offer 70 = .ok (.iaload, 1)) ∧ (decode cX6_offer 71 = .ok (.aload_n 0, 1)) ∧ (decode cX6_offer 72 = .ok (.getfield 24, 3)) ∧ (decode cX6_offer 75 = .ok (.iload_n 1, 1)) ∧ (decode cX6_offer 76 = .ok (.iaload, 1)) ∧ (decode cX6_offer 77 = .ok (.invokestatic 34, 3)) := by decide +kernel
theorem dX6_offer_60 : decode cX6_offer 60 = .ok (.goto 24, 3) := dGR_13_c_253.1
theorem dX6_offer_63 : decode cX6_offer 63 = .ok (.iload_n 2, 1) := dGR_13_c_253.2.1
theorem dX6_offer_64 : decode cX6_offer 64 = .ok (.iload_n 3, 1) := dGR_13_c_253.2.2.1
theorem dX6_offer_65 : decode cX6_offer 65 = .ok (.aload_n 0, 1) := dGR_13_c_253.2.2.2.1
theorem dX6_offer_66 : decode cX6_offer 66 = .ok (.getfield 21, 3) := dGR_13_c_253.2.2.2.2.1
theorem dX6_offer_69 : decode cX6_offer 69 = .ok (.iload_n 1, 1) := dGR_13_c_253.2.2.2.2.2.1
theorem dX6_offer_70 : decode cX6_offer 70 = .ok (.iaload, 1) := dGR_13_c_253.2.2.2.2.2.2.1
theorem dX6_offer_71 : decode cX6_offer 71 = .ok (.aload_n 0, 1) := dGR_13_c_253.2.2.2.2.2.2.2.1
theorem dX6_offer_72 : decode cX6_offer 72 = .ok (.getfield 24, 3) := dGR_13_c_253.2.2.2.2.2.2.2.2.1
theorem dX6_offer_75 : decode cX6_offer 75 = .ok (.iload_n 1, 1) := dGR_13_c_253.2.2.2.2.2.2.2.2.2.1
theorem dX6_offer_76 : decode cX6_offer 76 = .ok (.iaload, 1) := dGR_13_c_253.2.2.2.2.2.2.2.2.2.2.1
theorem dX6_offer_77 : decode cX6_offer 77 = .ok (.invokestatic 34, 3) := dGR_13_c_253.2.2.2.2.2.2.2.2.2.2.2
set_option maxRecDepth 100000 in
theorem dGR_13_c_254 : (decode cX6_offer 80 = .ok (.ifCond .ne 4, 3)) ∧ (decode cX6_offer 83 = .ok (.return_, 1)) ∧ (decode cX6_offer 84 = .ok (.aload_n 0, 1)) ∧ (decode cX6_offer 85 = .ok (.getfield 21, 3)) ∧ (decode cX6_offer 88 = .ok (.iload_n 1, 1)) ∧ (decode cX6_offer 89 = .ok (.iload_n 2, 1)) ∧ (decode cX6_offer 90 = .ok (.iastore, 1)) ∧ (decode cX6_offer 91 = .ok (.aload_n 0, 1)) ∧ (decode cX6_offer 92 = .ok (.getfield 24, 3)) ∧ (decode cX6_offer 95 = .ok (.iload_n 1, 1)) ∧ (decode cX6_offer 96 = .ok (.iload_n 3, 1)) ∧ (decode cX6_offer 97 = .ok (.iastore, 1)) := by decide +kernel
theorem dX6_offer_80 : decode cX6_offer 80 = .ok (.ifCond .ne 4, 3) := dGR_13_c_254.1
theorem dX6_offer_83 : decode cX6_offer 83 = .ok (.return_, 1) := dGR_13_c_254.2.1
theorem dX6_offer_84 : decode cX6_offer 84 = .ok (.aload_n 0, 1) := dGR_13_c_254.2.2.1
theorem dX6_offer_85 : decode cX6_offer 85 = .ok (.getfield 21, 3) := dGR_13_c_254.2.2.2.1
theorem dX6_offer_88 : decode cX6_offer 88 = .ok (.iload_n 1, 1) := dGR_13_c_254.2.2.2.2.1
theorem dX6_offer_89 : decode cX6_offer 89 = .ok (.iload_n 2, 1) := dGR_13_c_254.2.2.2.2.2.1
theorem dX6_offer_90 : decode cX6_offer 90 = .ok (.iastore, 1) := dGR_13_c_254.2.2.2.2.2.2.1
theorem dX6_offer_91 : decode cX6_offer 91 = .ok (.aload_n 0, 1) := dGR_13_c_254.2.2.2.2.2.2.2.1
theorem dX6_offer_92 : decode cX6_offer 92 = .ok (.getfield 24, 3) := dGR_13_c_254.2.2.2.2.2.2.2.2.1
theorem dX6_offer_95 : decode cX6_offer 95 = .ok (.iload_n 1, 1) := dGR_13_c_254.2.2.2.2.2.2.2.2.2.1
theorem dX6_offer_96 : decode cX6_offer 96 = .ok (.iload_n 3, 1) := dGR_13_c_254.2.2.2.2.2.2.2.2.2.2.1
theorem dX6_offer_97 : decode cX6_offer 97 = .ok (.iastore, 1) := dGR_13_c_254.2.2.2.2.2.2.2.2.2.2.2
theorem dX6_offer_98 : decode cX6_offer 98 = .ok (.return_, 1) := by decide +kernel
abbrev f_c_X6_offerA : List (Nat × Int) := [(26, 0), (27, -1), (28, -1), (29, -1), (30, -1)]
set_option maxHeartbeats 4000000 in
set_option maxRecDepth 100000 in
theorem c_X6_offerA (G : KG) (l : Launch) (M : Mem) (c0 : Int) (a1 : Int) (a2 : Int) (a3 : Int) (hI_M : Inv false M) (hk_c0 : kd c0 = 26) (hpre : -2147483648 ≤ a1 ∧ a1 ≤ 2147483647 ∧ -2147483648 ≤ a2 ∧ a2 ≤ 2147483647 ∧ -2147483648 ≤ a3 ∧ a3 ≤ 2147483647 ∧ 0 ≤ a2 ∧ a2 ≤ 1000000000) (hX_M : XX M) : KC false G l yX6_offer cX6_offer 4 none (1, 23) [vR G c0, vI a1, vI a2, vI a3] M (fun A => kQv false G A (fun (N : Mem) => Inv false N ∧ Fr f_c_X6_offerA M N ∧ XX N)) := by
  refine kx_met (lo := [some (vR G c0), some (vI a1), some (vI a2), some (vI a3)]) (by decide) (Nat.le_of_ble_eq_true rfl) rfl ?_
  intro X F hQ
  have hF_M : Fr f_c_X6_offerA M M := Fr.rf _ _
  refine kx_iload_n 1 F 1 dX6_offer_0 rfl rfl rfl ?_
  refine kx_if_lt 4 F 23 dX6_offer_1 (by decide) rfl (by omega) (fun h_1 => ?_) (fun h_1 => ?_)
  · exact kx_vret F hQ ⟨hI_M, hF_M, hX_M⟩ dX6_offer_23
  · refine kx_iload_n 5 F 1 dX6_offer_4 rfl rfl rfl ?_
    refine kx_aload_n 6 F 0 dX6_offer_5 rfl rfl rfl ?_
    refine kx_getr 9 F fl_X6_27 hk_c0 rfl rfl (j := 4) rfl dX6_offer_6 (v := (M c0 4)) rfl rfl ?_
    have hk_2 : kd (M c0 4) = 30 := Inv.r hI_M hk_c0 rfl 4 rfl rfl
    refine kx_alen 10 F hk_2 rfl rfl (z := 576) (by decide) dX6_offer_9 rfl ?_
    refine kx_icmp_ge 13 F 23 dX6_offer_10 (by decide) rfl (by omega) (by decide) (fun h_3 => ?_) (fun h_3 => ?_)
    · exact kx_vret F hQ ⟨hI_M, hF_M, hX_M⟩ dX6_offer_23
    · refine kx_aload_n 14 F 0 dX6_offer_13 rfl rfl rfl ?_
      refine kx_getr 17 F fl_X6_27 hk_c0 rfl rfl (j := 4) rfl dX6_offer_14 (v := (M c0 4)) rfl rfl ?_
      refine kx_iload_n 18 F 1 dX6_offer_17 rfl rfl rfl ?_
      refine kx_iald 19 F hk_2 rfl rfl (by omega) (by decide) dX6_offer_18 (v := (M (M c0 4) a1)) rfl rfl ?_
      have h_4 := Inv.g hI_M hk_2 rfl a1 (a := 0) (b := 2) rfl rfl
      refine kx_iconst 20 F dX6_offer_19 rfl ?_
      refine kx_icmp_ne 23 F 24 dX6_offer_20 (by decide) rfl (by omega) (by decide) (fun h_5 => ?_) (fun h_5 => ?_)
      · refine kx_aload_n 25 F 0 dX6_offer_24 rfl rfl rfl ?_
        refine kx_getr 28 F fl_X6_27 hk_c0 rfl rfl (j := 4) rfl dX6_offer_25 (v := (M c0 4)) rfl rfl ?_
        refine kx_iload_n 29 F 1 dX6_offer_28 rfl rfl rfl ?_
        refine kx_iald 30 F hk_2 rfl rfl (by omega) (by decide) dX6_offer_29 (v := (M (M c0 4) a1)) rfl rfl ?_
        refine kx_if_ne 33 F 63 dX6_offer_30 (by decide) rfl (by omega) (fun h_6 => ?_) (fun h_6 => ?_)
        · refine kx_iload_n 64 F 2 dX6_offer_63 rfl rfl rfl ?_
          refine kx_iload_n 65 F 3 dX6_offer_64 rfl rfl rfl ?_
          refine kx_aload_n 66 F 0 dX6_offer_65 rfl rfl rfl ?_
          refine kx_getr 69 F fl_X6_21 hk_c0 rfl rfl (j := 2) rfl dX6_offer_66 (v := (M c0 2)) rfl rfl ?_
          have hk_7 : kd (M c0 2) = 28 := Inv.r hI_M hk_c0 rfl 2 rfl rfl
          refine kx_iload_n 70 F 1 dX6_offer_69 rfl rfl rfl ?_
          refine kx_iald 71 F hk_7 rfl rfl (by omega) (by decide) dX6_offer_70 (v := (M (M c0 2) a1)) rfl rfl ?_
          have h_8 := Inv.g hI_M hk_7 rfl a1 (a := 0) (b := 1000000000) rfl rfl
          refine kx_aload_n 72 F 0 dX6_offer_71 rfl rfl rfl ?_
          refine kx_getr 75 F fl_X6_24 hk_c0 rfl rfl (j := 3) rfl dX6_offer_72 (v := (M c0 3)) rfl rfl ?_
          have hk_9 : kd (M c0 3) = 29 := Inv.r hI_M hk_c0 rfl 3 rfl rfl
          refine kx_iload_n 76 F 1 dX6_offer_75 rfl rfl rfl ?_
          refine kx_iald 77 F hk_9 rfl rfl (by omega) (by decide) dX6_offer_76 (v := (M (M c0 3) a1)) rfl rfl ?_
          have h_10 := Inv.g hI_M hk_9 rfl a1 (a := (-2147483648)) (b := 2147483647) rfl rfl
          refine kx_Si 80 F (As := [vI a2, vI a3, vI (M (M c0 2) a1), vI (M (M c0 3) a1)]) (st := []) sd_X6_34 (c_X6_isBefore G l M a2 a3 (M (M c0 2) a1) (M (M c0 3) a1) hI_M (by omega)) ⟨by decide, by decide⟩ rfl rfl (Nat.le_of_ble_eq_true rfl) dX6_offer_77 rfl ?_
          intro r_11 N_12 q_13
          obtain ⟨rfl, q_13c⟩ := q_13
          refine kx_if_ne 83 F 84 dX6_offer_80 (by decide) rfl (by omega) (fun h_14 => ?_) (fun h_14 => ?_)
          · refine kx_aload_n 85 F 0 dX6_offer_84 rfl rfl rfl ?_
            refine kx_getr 88 F fl_X6_21 hk_c0 rfl rfl (j := 2) rfl dX6_offer_85 (v := (M c0 2)) rfl rfl ?_
            refine kx_iload_n 89 F 1 dX6_offer_88 rfl rfl rfl ?_
            refine kx_iload_n 90 F 2 dX6_offer_89 rfl rfl rfl ?_
            refine kx_iast 91 F hk_7 rfl rfl (by omega) (by decide) dX6_offer_90 rfl ?_
            intro N_15 hM_N_15
            have hI_N_15 : Inv false N_15 := Inv.u hI_M hM_N_15 hk_7 (a := 0) (b := 1000000000) rfl rfl rfl (by omega)
            have hF_N_15 : Fr f_c_X6_offerA M N_15 := Fr.u hF_M hM_N_15 hk_7 rfl
            have hX_N_15 : XX N_15 := XX.st hX_M hI_M hM_N_15 hk_7 rfl
            refine kx_aload_n 92 F 0 dX6_offer_91 rfl rfl rfl ?_
            refine kx_getr 95 F fl_X6_24 hk_c0 rfl rfl (j := 3) rfl dX6_offer_92 (v := (M c0 3)) (by rw [hM_N_15, mu_k hk_c0 hk_7 rfl]) rfl ?_
            refine kx_iload_n 96 F 1 dX6_offer_95 rfl rfl rfl ?_
            refine kx_iload_n 97 F 3 dX6_offer_96 rfl rfl rfl ?_
            refine kx_iast 98 F hk_9 rfl rfl (by omega) (by decide) dX6_offer_97 rfl ?_
            intro N_16 hM_N_16
            have hI_N_16 : Inv false N_16 := Inv.u hI_N_15 hM_N_16 hk_9 (a := (-2147483648)) (b := 2147483647) rfl rfl rfl (by omega)
            have hF_N_16 : Fr f_c_X6_offerA M N_16 := Fr.u hF_N_15 hM_N_16 hk_9 rfl
            have hX_N_16 : XX N_16 := XX.st hX_N_15 hI_N_15 hM_N_16 hk_9 rfl
            exact kx_vret F hQ ⟨hI_N_16, hF_N_16, hX_N_16⟩ dX6_offer_98
          · exact kx_vret F hQ ⟨hI_M, hF_M, hX_M⟩ dX6_offer_83
        · have hk_17 : kd (M c0 1) = 27 := Inv.r hI_M hk_c0 rfl 1 rfl rfl
          have h_18 := Inv.g hI_M hk_c0 rfl 0 (a := 0) (b := 576) rfl rfl
          have h_19 : M c0 0 < 576 := ShOK.lt (hX_M.2.1 c0 hk_c0) (by omega) (fun i => by have := Inv.g hI_M hk_17 rfl i (a := 0) (b := 575) rfl rfl; omega) (m := a1) (by omega) (by omega)
          refine kx_aload_n 34 F 0 dX6_offer_33 rfl rfl rfl ?_
          refine kx_getr 37 F fl_X6_27 hk_c0 rfl rfl (j := 4) rfl dX6_offer_34 (v := (M c0 4)) rfl rfl ?_
          refine kx_iload_n 38 F 1 dX6_offer_37 rfl rfl rfl ?_
          refine kx_iconst 39 F dX6_offer_38 rfl ?_
          refine kx_iast 40 F hk_2 rfl rfl (by omega) (by decide) dX6_offer_39 rfl ?_
          intro N_20 hM_N_20
          have hI_N_20 : Inv false N_20 := Inv.u hI_M hM_N_20 hk_2 (a := 0) (b := 2) rfl rfl rfl (by omega)
          have hF_N_20 : Fr f_c_X6_offerA M N_20 := Fr.u hF_M hM_N_20 hk_2 rfl
          refine kx_aload_n 41 F 0 dX6_offer_40 rfl rfl rfl ?_
          refine kx_getr 44 F fl_X6_15 hk_c0 rfl rfl (j := 1) rfl dX6_offer_41 (v := (M c0 1)) (by rw [hM_N_20, mu_k hk_c0 hk_2 rfl]) rfl ?_
          refine kx_aload_n 45 F 0 dX6_offer_44 rfl rfl rfl ?_
          refine kx_geti 48 F fl_X6_30 hk_c0 rfl rfl (j := 0) rfl dX6_offer_45 (v := (M c0 0)) (by rw [hM_N_20, mu_k hk_c0 hk_2 rfl]) rfl ?_
          refine kx_iload_n 49 F 1 dX6_offer_48 rfl rfl rfl ?_
          refine kx_iast 50 F hk_17 rfl rfl (by omega) (by decide) dX6_offer_49 rfl ?_
          intro N_21 hM_N_21
          have hI_N_21 : Inv false N_21 := Inv.u hI_N_20 hM_N_21 hk_17 (a := 0) (b := 575) rfl rfl rfl (by omega)
          have hF_N_21 : Fr f_c_X6_offerA M N_21 := Fr.u hF_N_20 hM_N_21 hk_17 rfl
          refine kx_aload_n 51 F 0 dX6_offer_50 rfl rfl rfl ?_
          refine kx_dup 52 F dX6_offer_51 rfl rfl ?_
          refine kx_geti 55 F fl_X6_30 hk_c0 rfl rfl (j := 0) rfl dX6_offer_52 (v := (M c0 0)) (by rw [hM_N_21, mu_k hk_c0 hk_17 rfl, hM_N_20, mu_k hk_c0 hk_2 rfl]) rfl ?_
          refine kx_iconst 56 F dX6_offer_55 rfl ?_
          refine kx_iadd 57 F (v := (M c0 0) + 1) dX6_offer_56 rfl rfl ?_
          refine kx_puti 60 F fw_X6_30 rfl hk_c0 rfl rfl (j := 0) rfl dX6_offer_57 rfl ?_
          intro N_22 hM_N_22
          have hI_N_22 : Inv false N_22 := Inv.u hI_N_21 hM_N_22 hk_c0 (a := 0) (b := 576) rfl rfl rfl (by omega)
          have hF_N_22 : Fr f_c_X6_offerA M N_22 := Fr.u hF_N_21 hM_N_22 hk_c0 rfl
          have hs_N_22 : ShOK 576 N_22 c0 := ShOK.ins (hX_M.2.1 c0 hk_c0) (m := a1) (by omega) (by omega) (by rw [hM_N_22, mu_s]) (by rw [hM_N_22, mu_i (by omega), hM_N_21, mu_k hk_c0 hk_17 rfl, hM_N_20, mu_k hk_c0 hk_2 rfl]) (by rw [hM_N_22, mu_i (by omega), hM_N_21, mu_k hk_c0 hk_17 rfl, hM_N_20, mu_k hk_c0 hk_2 rfl]) (fun i => by rw [hM_N_22, mu_k hk_17 hk_c0 rfl, hM_N_21, mu_at, hM_N_20, mu_k hk_17 hk_2 rfl]) (fun i => by rw [hM_N_22, mu_k hk_2 hk_c0 rfl, hM_N_21, mu_k hk_2 hk_17 rfl, hM_N_20, mu_at])
          have hX_N_22 : XX N_22 := XX.shA hX_M hI_M hF_N_22 rfl hk_c0 hs_N_22
          refine kx_goto 84 F dX6_offer_60 (by decide) ?_
          refine kx_aload_n 85 F 0 dX6_offer_84 rfl rfl rfl ?_
          refine kx_getr 88 F fl_X6_21 hk_c0 rfl rfl (j := 2) rfl dX6_offer_85 (v := (M c0 2)) (by rw [hM_N_22, mu_i (by omega), hM_N_21, mu_k hk_c0 hk_17 rfl, hM_N_20, mu_k hk_c0 hk_2 rfl]) rfl ?_
          have hk_23 : kd (M c0 2) = 28 := Inv.r hI_M hk_c0 rfl 2 rfl rfl
          refine kx_iload_n 89 F 1 dX6_offer_88 rfl rfl rfl ?_
          refine kx_iload_n 90 F 2 dX6_offer_89 rfl rfl rfl ?_
          refine kx_iast 91 F hk_23 rfl rfl (by omega) (by decide) dX6_offer_90 rfl ?_
          intro N_24 hM_N_24
          have hI_N_24 : Inv false N_24 := Inv.u hI_N_22 hM_N_24 hk_23 (a := 0) (b := 1000000000) rfl rfl rfl (by omega)
          have hF_N_24 : Fr f_c_X6_offerA M N_24 := Fr.u hF_N_22 hM_N_24 hk_23 rfl
          have hX_N_24 : XX N_24 := XX.st hX_N_22 hI_N_22 hM_N_24 hk_23 rfl
          refine kx_aload_n 92 F 0 dX6_offer_91 rfl rfl rfl ?_
          refine kx_getr 95 F fl_X6_24 hk_c0 rfl rfl (j := 3) rfl dX6_offer_92 (v := (M c0 3)) (by rw [hM_N_24, mu_k hk_c0 hk_23 rfl, hM_N_22, mu_i (by omega), hM_N_21, mu_k hk_c0 hk_17 rfl, hM_N_20, mu_k hk_c0 hk_2 rfl]) rfl ?_
          have hk_25 : kd (M c0 3) = 29 := Inv.r hI_M hk_c0 rfl 3 rfl rfl
          refine kx_iload_n 96 F 1 dX6_offer_95 rfl rfl rfl ?_
          refine kx_iload_n 97 F 3 dX6_offer_96 rfl rfl rfl ?_
          refine kx_iast 98 F hk_25 rfl rfl (by omega) (by decide) dX6_offer_97 rfl ?_
          intro N_26 hM_N_26
          have hI_N_26 : Inv false N_26 := Inv.u hI_N_24 hM_N_26 hk_25 (a := (-2147483648)) (b := 2147483647) rfl rfl rfl (by omega)
          have hF_N_26 : Fr f_c_X6_offerA M N_26 := Fr.u hF_N_24 hM_N_26 hk_25 rfl
          have hX_N_26 : XX N_26 := XX.st hX_N_24 hI_N_24 hM_N_26 hk_25 rfl
          exact kx_vret F hQ ⟨hI_N_26, hF_N_26, hX_N_26⟩ dX6_offer_98
      · exact kx_vret F hQ ⟨hI_M, hF_M, hX_M⟩ dX6_offer_23
set_option maxRecDepth 100000 in
theorem dGR_13_c_255 : (decode cX6_closes 0 = .ok (.aload_n 0, 1)) ∧ (decode cX6_closes 1 = .ok (.getfield 27, 3)) ∧ (decode cX6_closes 4 = .ok (.iload_n 1, 1)) ∧ (decode cX6_closes 5 = .ok (.iaload, 1)) ∧ (decode cX6_closes 6 = .ok (.iconst 1, 1)) ∧ (decode cX6_closes 7 = .ok (.if_icmp .ne 13, 3)) ∧ (decode cX6_closes 10 = .ok (.aload_n 0, 1)) ∧ (decode cX6_closes 11 = .ok (.getfield 21, 3)) ∧ (decode cX6_closes 14 = .ok (.iload_n 1, 1)) ∧ (decode cX6_closes 15 = .ok (.iaload, 1)) ∧ (decode cX6_closes 16 = .ok (.iload_n 2, 1)) ∧ (decode cX6_closes 17 = .ok (.if_icmp .eq 5, 3)) := by decide +kernel
theorem dX6_closes_0 : decode cX6_closes 0 = .ok (.aload_n 0, 1) := dGR_13_c_255.1
theorem dX6_closes_1 : decode cX6_closes 1 = .ok (.getfield 27, 3) := dGR_13_c_255.2.1
theorem dX6_closes_4 : decode cX6_closes 4 = .ok (.iload_n 1, 1) := dGR_13_c_255.2.2.1
theorem dX6_closes_5 : decode cX6_closes 5 = .ok (.iaload, 1) := dGR_13_c_255.2.2.2.1
theorem dX6_closes_6 : decode cX6_closes 6 = .ok (.iconst 1, 1) := dGR_13_c_255.2.2.2.2.1
theorem dX6_closes_7 : decode cX6_closes 7 = .ok (.if_icmp .ne 13, 3) := dGR_13_c_255.2.2.2.2.2.1
theorem dX6_closes_10 : decode cX6_closes 10 = .ok (.aload_n 0, 1) := dGR_13_c_255.2.2.2.2.2.2.1
theorem dX6_closes_11 : decode cX6_closes 11 = .ok (.getfield 21, 3) := dGR_13_c_255.2.2.2.2.2.2.2.1
theorem dX6_closes_14 : decode cX6_closes 14 = .ok (.iload_n 1, 1) := dGR_13_c_255.2.2.2.2.2.2.2.2.1
theorem dX6_closes_15 : decode cX6_closes 15 = .ok (.iaload, 1) := dGR_13_c_255.2.2.2.2.2.2.2.2.2.1
theorem dX6_closes_16 : decode cX6_closes 16 = .ok (.iload_n 2, 1) := dGR_13_c_255.2.2.2.2.2.2.2.2.2.2.1
theorem dX6_closes_17 : decode cX6_closes 17 = .ok (.if_icmp .eq 5, 3) := dGR_13_c_255.2.2.2.2.2.2.2.2.2.2.2
set_option maxRecDepth 100000 in
theorem dGR_13_c_256 : (decode cX6_closes 20 = .ok (.iconst 0, 1)) ∧ (decode cX6_closes 21 = .ok (.ireturn, 1)) ∧ (decode cX6_closes 22 = .ok (.aload_n 0, 1)) ∧ (decode cX6_closes 23 = .ok (.getfield 27, 3)) ∧ (decode cX6_closes 26 = .ok (.iload_n 1, 1)) ∧ (decode cX6_closes 27 = .ok (.iconst 2, 1)) ∧ (decode cX6_closes 28 = .ok (.iastore, 1)) ∧ (decode cX6_closes 29 = .ok (.iconst 1, 1)) ∧ (decode cX6_closes 30 = .ok (.ireturn, 1)) := by decide +kernel
theorem dX6_closes_20 : decode cX6_closes 20 = .ok (.iconst 0, 1) := dGR_13_c_256.1
theorem dX6_closes_21 : decode cX6_closes 21 = .ok (.ireturn, 1) := dGR_13_c_256.2.1
theorem dX6_closes_22 : decode cX6_closes 22 = .ok (.aload_n 0, 1) := dGR_13_c_256.2.2.1
theorem dX6_closes_23 : decode cX6_closes 23 = .ok (.getfield 27, 3) := dGR_13_c_256.2.2.2.1
theorem dX6_closes_26 : decode cX6_closes 26 = .ok (.iload_n 1, 1) := dGR_13_c_256.2.2.2.2.1
theorem dX6_closes_27 : decode cX6_closes 27 = .ok (.iconst 2, 1) := dGR_13_c_256.2.2.2.2.2.1
theorem dX6_closes_28 : decode cX6_closes 28 = .ok (.iastore, 1) := dGR_13_c_256.2.2.2.2.2.2.1
theorem dX6_closes_29 : decode cX6_closes 29 = .ok (.iconst 1, 1) := dGR_13_c_256.2.2.2.2.2.2.2.1
theorem dX6_closes_30 : decode cX6_closes 30 = .ok (.ireturn, 1) := dGR_13_c_256.2.2.2.2.2.2.2.2
abbrev f_c_X6_closesA : List (Nat × Int) := [(30, -1)]
set_option maxHeartbeats 4000000 in
set_option maxRecDepth 100000 in
theorem c_X6_closesA (G : KG) (l : Launch) (M : Mem) (c0 : Int) (a1 : Int) (a2 : Int) (hI_M : Inv false M) (hk_c0 : kd c0 = 26) (hpre : -2147483648 ≤ a1 ∧ a1 ≤ 2147483647 ∧ -2147483648 ≤ a2 ∧ a2 ≤ 2147483647 ∧ 0 ≤ a1 ∧ a1 ≤ 575) (hX_M : XX M) : KC false G l yX6_closes cX6_closes 3 (some .boolean) (0, 0) [vR G c0, vI a1, vI a2] M (fun A => kQi false G A (fun (r : Int) (N : Mem) => Inv false N ∧ Fr f_c_X6_closesA M N ∧ (0 ≤ r ∧ r ≤ 1) ∧ XX N)) := by
  refine kx_met (lo := [some (vR G c0), some (vI a1), some (vI a2)]) (by decide) (Nat.le_of_ble_eq_true rfl) rfl ?_
  intro X F hQ
  have hF_M : Fr f_c_X6_closesA M M := Fr.rf _ _
  refine kx_aload_n 1 F 0 dX6_closes_0 rfl rfl rfl ?_
  refine kx_getr 4 F fl_X6_27 hk_c0 rfl rfl (j := 4) rfl dX6_closes_1 (v := (M c0 4)) rfl rfl ?_
  have hk_1 : kd (M c0 4) = 30 := Inv.r hI_M hk_c0 rfl 4 rfl rfl
  refine kx_iload_n 5 F 1 dX6_closes_4 rfl rfl rfl ?_
  refine kx_iald 6 F hk_1 rfl rfl (by omega) (by decide) dX6_closes_5 (v := (M (M c0 4) a1)) rfl rfl ?_
  have h_2 := Inv.g hI_M hk_1 rfl a1 (a := 0) (b := 2) rfl rfl
  refine kx_iconst 7 F dX6_closes_6 rfl ?_
  refine kx_icmp_ne 10 F 20 dX6_closes_7 (by decide) rfl (by omega) (by decide) (fun h_3 => ?_) (fun h_3 => ?_)
  · refine kx_iconst 21 F dX6_closes_20 rfl ?_
    exact kx_zret F hQ (by omega) ⟨hI_M, hF_M, (by omega), hX_M⟩ dX6_closes_21
  · refine kx_aload_n 11 F 0 dX6_closes_10 rfl rfl rfl ?_
    refine kx_getr 14 F fl_X6_21 hk_c0 rfl rfl (j := 2) rfl dX6_closes_11 (v := (M c0 2)) rfl rfl ?_
    have hk_4 : kd (M c0 2) = 28 := Inv.r hI_M hk_c0 rfl 2 rfl rfl
    refine kx_iload_n 15 F 1 dX6_closes_14 rfl rfl rfl ?_
    refine kx_iald 16 F hk_4 rfl rfl (by omega) (by decide) dX6_closes_15 (v := (M (M c0 2) a1)) rfl rfl ?_
    have h_5 := Inv.g hI_M hk_4 rfl a1 (a := 0) (b := 1000000000) rfl rfl
    refine kx_iload_n 17 F 2 dX6_closes_16 rfl rfl rfl ?_
    refine kx_icmp_eq 20 F 22 dX6_closes_17 (by decide) rfl (by omega) (by omega) (fun h_6 => ?_) (fun h_6 => ?_)
    · refine kx_aload_n 23 F 0 dX6_closes_22 rfl rfl rfl ?_
      refine kx_getr 26 F fl_X6_27 hk_c0 rfl rfl (j := 4) rfl dX6_closes_23 (v := (M c0 4)) rfl rfl ?_
      refine kx_iload_n 27 F 1 dX6_closes_26 rfl rfl rfl ?_
      refine kx_iconst 28 F dX6_closes_27 rfl ?_
      refine kx_iast 29 F hk_1 rfl rfl (by omega) (by decide) dX6_closes_28 rfl ?_
      intro N_7 hM_N_7
      have hI_N_7 : Inv false N_7 := Inv.u hI_M hM_N_7 hk_1 (a := 0) (b := 2) rfl rfl rfl (by omega)
      have hF_N_7 : Fr f_c_X6_closesA M N_7 := Fr.u hF_M hM_N_7 hk_1 rfl
      have hk_8 : kd (M c0 1) = 27 := Inv.r hI_M hk_c0 rfl 1 rfl rfl
      have hs_N_7 : ShOK 576 N_7 c0 := ShOK.mood (hX_M.2.1 c0 hk_c0) (m := a1) (v := 2) (by omega) (by decide) (by rw [hM_N_7, mu_k hk_c0 hk_1 rfl]) (by rw [hM_N_7, mu_k hk_c0 hk_1 rfl]) (by rw [hM_N_7, mu_k hk_c0 hk_1 rfl]) (fun i => by rw [hM_N_7, mu_k hk_8 hk_1 rfl]) (fun i => by rw [hM_N_7, mu_at])
      have hX_N_7 : XX N_7 := XX.shA hX_M hI_M hF_N_7 rfl hk_c0 hs_N_7
      refine kx_iconst 30 F dX6_closes_29 rfl ?_
      exact kx_zret F hQ (by omega) ⟨hI_N_7, hF_N_7, (by omega), hX_N_7⟩ dX6_closes_30
    · refine kx_iconst 21 F dX6_closes_20 rfl ?_
      exact kx_zret F hQ (by omega) ⟨hI_M, hF_M, (by omega), hX_M⟩ dX6_closes_21
set_option maxRecDepth 100000 in
theorem dGR_13_c_257 : (decode cX6_clear 0 = .ok (.iconst 0, 1)) ∧ (decode cX6_clear 1 = .ok (.istore_n 1, 1)) ∧ (decode cX6_clear 2 = .ok (.iload_n 1, 1)) ∧ (decode cX6_clear 3 = .ok (.aload_n 0, 1)) ∧ (decode cX6_clear 4 = .ok (.getfield 30, 3)) ∧ (decode cX6_clear 7 = .ok (.if_icmp .ge 21, 3)) ∧ (decode cX6_clear 10 = .ok (.aload_n 0, 1)) ∧ (decode cX6_clear 11 = .ok (.getfield 27, 3)) ∧ (decode cX6_clear 14 = .ok (.aload_n 0, 1)) ∧ (decode cX6_clear 15 = .ok (.getfield 15, 3)) ∧ (decode cX6_clear 18 = .ok (.iload_n 1, 1)) ∧ (decode cX6_clear 19 = .ok (.iaload, 1)) := by decide +kernel
theorem dX6_clear_0 : decode cX6_clear 0 = .ok (.iconst 0, 1) := dGR_13_c_257.1
theorem dX6_clear_1 : decode cX6_clear 1 = .ok (.istore_n 1, 1) := dGR_13_c_257.2.1
theorem dX6_clear_2 : decode cX6_clear 2 = .ok (.iload_n 1, 1) := dGR_13_c_257.2.2.1
theorem dX6_clear_3 : decode cX6_clear 3 = .ok (.aload_n 0, 1) := dGR_13_c_257.2.2.2.1
theorem dX6_clear_4 : decode cX6_clear 4 = .ok (.getfield 30, 3) := dGR_13_c_257.2.2.2.2.1
theorem dX6_clear_7 : decode cX6_clear 7 = .ok (.if_icmp .ge 21, 3) := dGR_13_c_257.2.2.2.2.2.1
theorem dX6_clear_10 : decode cX6_clear 10 = .ok (.aload_n 0, 1) := dGR_13_c_257.2.2.2.2.2.2.1
theorem dX6_clear_11 : decode cX6_clear 11 = .ok (.getfield 27, 3) := dGR_13_c_257.2.2.2.2.2.2.2.1
theorem dX6_clear_14 : decode cX6_clear 14 = .ok (.aload_n 0, 1) := dGR_13_c_257.2.2.2.2.2.2.2.2.1
theorem dX6_clear_15 : decode cX6_clear 15 = .ok (.getfield 15, 3) := dGR_13_c_257.2.2.2.2.2.2.2.2.2.1
theorem dX6_clear_18 : decode cX6_clear 18 = .ok (.iload_n 1, 1) := dGR_13_c_257.2.2.2.2.2.2.2.2.2.2.1
theorem dX6_clear_19 : decode cX6_clear 19 = .ok (.iaload, 1) := dGR_13_c_257.2.2.2.2.2.2.2.2.2.2.2
set_option maxRecDepth 100000 in
theorem dGR_13_c_258 : (decode cX6_clear 20 = .ok (.iconst 0, 1)) ∧ (decode cX6_clear 21 = .ok (.iastore, 1)) ∧ (decode cX6_clear 22 = .ok (.iinc 1 1, 3)) ∧ (decode cX6_clear 25 = .ok (.goto (-23), 3)) ∧ (decode cX6_clear 28 = .ok (.aload_n 0, 1)) ∧ (decode cX6_clear 29 = .ok (.iconst 0, 1)) ∧ (decode cX6_clear 30 = .ok (.putfield 30, 3)) ∧ (decode cX6_clear 33 = .ok (.return_, 1)) := by decide +kernel
theorem dX6_clear_20 : decode cX6_clear 20 = .ok (.iconst 0, 1) := dGR_13_c_258.1
theorem dX6_clear_21 : decode cX6_clear 21 = .ok (.iastore, 1) := dGR_13_c_258.2.1
theorem dX6_clear_22 : decode cX6_clear 22 = .ok (.iinc 1 1, 3) := dGR_13_c_258.2.2.1
theorem dX6_clear_25 : decode cX6_clear 25 = .ok (.goto (-23), 3) := dGR_13_c_258.2.2.2.1
theorem dX6_clear_28 : decode cX6_clear 28 = .ok (.aload_n 0, 1) := dGR_13_c_258.2.2.2.2.1
theorem dX6_clear_29 : decode cX6_clear 29 = .ok (.iconst 0, 1) := dGR_13_c_258.2.2.2.2.2.1
theorem dX6_clear_30 : decode cX6_clear 30 = .ok (.putfield 30, 3) := dGR_13_c_258.2.2.2.2.2.2.1
theorem dX6_clear_33 : decode cX6_clear 33 = .ok (.return_, 1) := dGR_13_c_258.2.2.2.2.2.2.2
abbrev f_c_X6_clearA : List (Nat × Int) := [(26, 0), (30, -1)]
set_option maxHeartbeats 4000000 in
set_option maxRecDepth 100000 in
theorem c_X6_clearA (G : KG) (l : Launch) (M : Mem) (c0 : Int) (hI_M : Inv false M) (hk_c0 : kd c0 = 26) (hX_M : XX M) : KC false G l yX6_clear cX6_clear 2 none (0, 0) [vR G c0] M (fun A => kQv false G A (fun (N : Mem) => Inv false N ∧ Fr f_c_X6_clearA M N ∧ XX N)) := by
  refine kx_met (lo := [some (vR G c0), none]) (by decide) (Nat.le_of_ble_eq_true rfl) rfl ?_
  intro X F hQ
  have hF_M : Fr f_c_X6_clearA M M := Fr.rf _ _
  refine kx_iconst 1 F dX6_clear_0 rfl ?_
  refine kx_istore_n 2 F 1 (lo' := [some (vR G c0), some (vI 0)]) dX6_clear_1 rfl (by decide) rfl rfl rfl ?_
  have L_66 : ∀ (n_67 : Nat) (x1_64 : Int) (N_65 : Mem), Inv false N_65 → Fr f_c_X6_clearA M N_65 → ShCl 576 M N_65 c0 x1_64 → 0 ≤ x1_64 ∧ x1_64 ≤ 576 → (576 - (x1_64)).toNat = n_67 → KJ false G X N_65 2 [some (vR G c0), some (vI x1_64)] [] := by
    intro n_67
    refine Nat.strongRecOn n_67 ?_
    intro n_67 ih_68 x1_64 N_65 hI_N_65 hF_N_65 hp_71 h_69 hm_70
    refine kx_iload_n 3 F 1 dX6_clear_2 rfl rfl rfl ?_
    refine kx_aload_n 4 F 0 dX6_clear_3 rfl rfl rfl ?_
    refine kx_geti 7 F fl_X6_30 hk_c0 rfl rfl (j := 0) rfl dX6_clear_4 (v := (N_65 c0 0)) rfl rfl ?_
    have h_72 := Inv.g hI_N_65 hk_c0 rfl 0 (a := 0) (b := 576) rfl rfl
    refine kx_icmp_ge 10 F 28 dX6_clear_7 (by decide) rfl (by omega) (by omega) (fun h_73 => ?_) (fun h_73 => ?_)
    · refine kx_aload_n 29 F 0 dX6_clear_28 rfl rfl rfl ?_
      refine kx_iconst 30 F dX6_clear_29 rfl ?_
      refine kx_puti 33 F fw_X6_30 rfl hk_c0 rfl rfl (j := 0) rfl dX6_clear_30 rfl ?_
      intro N_74 hM_N_74
      have hI_N_74 : Inv false N_74 := Inv.u hI_N_65 hM_N_74 hk_c0 (a := 0) (b := 576) rfl rfl rfl (by omega)
      have hF_N_74 : Fr f_c_X6_clearA M N_74 := Fr.u hF_N_65 hM_N_74 hk_c0 rfl
      have hk_75 : kd (M c0 1) = 27 := Inv.r hI_M hk_c0 rfl 1 rfl rfl
      have hk_76 : kd (M c0 4) = 30 := Inv.r hI_M hk_c0 rfl 4 rfl rfl
      have h_77 := hp_71.1
      have hs_N_74 : ShOK 576 N_74 c0 := ShCl.done hp_71 (by omega) (by rw [hM_N_74, mu_s]) (by rw [hM_N_74, mu_i (by omega)]) (by rw [hM_N_74, mu_i (by omega)]) (fun i => by rw [hM_N_74, mu_k hk_76 hk_c0 rfl])
      have hX_N_74 : XX N_74 := XX.shA hX_M hI_M hF_N_74 rfl hk_c0 hs_N_74
      exact kx_vret F hQ ⟨hI_N_74, hF_N_74, hX_N_74⟩ dX6_clear_33
    · refine kx_aload_n 11 F 0 dX6_clear_10 rfl rfl rfl ?_
      refine kx_getr 14 F fl_X6_27 hk_c0 rfl rfl (j := 4) rfl dX6_clear_11 (v := (M c0 4)) (by rw [Fr.e hF_N_65 hk_c0 _ rfl]) rfl ?_
      have hk_78 : kd (M c0 4) = 30 := Inv.r hI_M hk_c0 rfl 4 rfl rfl
      refine kx_aload_n 15 F 0 dX6_clear_14 rfl rfl rfl ?_
      refine kx_getr 18 F fl_X6_15 hk_c0 rfl rfl (j := 1) rfl dX6_clear_15 (v := (M c0 1)) (by rw [Fr.e hF_N_65 hk_c0 _ rfl]) rfl ?_
      have hk_79 : kd (M c0 1) = 27 := Inv.r hI_M hk_c0 rfl 1 rfl rfl
      refine kx_iload_n 19 F 1 dX6_clear_18 rfl rfl rfl ?_
      refine kx_iald 20 F hk_79 rfl rfl (by omega) (by decide) dX6_clear_19 (v := (M (M c0 1) x1_64)) (by rw [Fr.e hF_N_65 hk_79 _ rfl]) rfl ?_
      have h_80 := Inv.g hI_M hk_79 rfl x1_64 (a := 0) (b := 575) rfl rfl
      refine kx_iconst 21 F dX6_clear_20 rfl ?_
      refine kx_iast 22 F hk_78 rfl rfl (by omega) (by decide) dX6_clear_21 rfl ?_
      intro N_81 hM_N_81
      have hI_N_81 : Inv false N_81 := Inv.u hI_N_65 hM_N_81 hk_78 (a := 0) (b := 2) rfl rfl rfl (by omega)
      have hF_N_81 : Fr f_c_X6_clearA M N_81 := Fr.u hF_N_65 hM_N_81 hk_78 rfl
      refine kx_iinc 25 F 1 (v := x1_64 + 1) (lo' := [some (vR G c0), some (vI (x1_64 + 1))]) dX6_clear_22 rfl (by omega) (by decide) rfl rfl rfl ?_
      refine kx_goto 2 F dX6_clear_25 (by decide) ?_
      exact ih_68 _ (by omega) (x1_64 + 1) N_81 hI_N_81 hF_N_81 (ShCl.step hp_71 (by rw [hM_N_81, mu_k hk_c0 hk_78 rfl]) (by rw [hM_N_81, mu_k hk_c0 hk_78 rfl]) (by rw [hM_N_81, mu_k hk_c0 hk_78 rfl]) (fun i => by rw [hM_N_81, mu_k hk_79 hk_78 rfl]) (fun i => by rw [hM_N_81, mu_at])) (by omega) rfl
  exact L_66 _ 0 M hI_M hF_M (ShCl.start (hX_M.2.1 c0 hk_c0)) (by omega) rfl
set_option maxHeartbeats 4000000 in
set_option maxRecDepth 100000 in
theorem c_X6_nearestB (G : KG) (l : Launch) (M : Mem) (c0 : Int) (hI_M : Inv false M) (hk_c0 : kd c0 = 31) : KC false G l yX6_nearest cX6_nearest 4 (some .int) (0, 0) [vR G c0] M (fun A => kQi false G A (fun (r : Int) (N : Mem) => M = N ∧ (r ≥ -1 ∧ r ≤ 1000000000))) := by
  refine kx_met (lo := [some (vR G c0), none, none, none]) (by decide) (Nat.le_of_ble_eq_true rfl) rfl ?_
  intro X F hQ
  refine kx_iconst 1 F dX6_nearest_0 rfl ?_
  refine kx_istore_n 2 F 1 (lo' := [some (vR G c0), some (vI (-1)), none, none]) dX6_nearest_1 rfl (by decide) rfl rfl rfl ?_
  refine kx_iconst 3 F dX6_nearest_2 rfl ?_
  refine kx_istore_n 4 F 2 (lo' := [some (vR G c0), some (vI (-1)), some (vI 0), none]) dX6_nearest_3 rfl (by decide) rfl rfl rfl ?_
  have L_105 : ∀ (n_106 : Nat) (x1_103 : Int) (x2_104 : Int), (-1) ≤ x1_103 ∧ x1_103 ≤ 1000000000 ∧ 0 ≤ x2_104 ∧ x2_104 ≤ 48 → (48 - (x2_104)).toNat = n_106 → KJ false G X M 4 [some (vR G c0), some (vI x1_103), some (vI x2_104), none] [] := by
    intro n_106
    refine Nat.strongRecOn n_106 ?_
    intro n_106 ih_107 x1_103 x2_104 h_108 hm_109
    refine kx_iload_n 5 F 2 dX6_nearest_4 rfl rfl rfl ?_
    refine kx_aload_n 6 F 0 dX6_nearest_5 rfl rfl rfl ?_
    refine kx_geti 9 F fl_X6_30 hk_c0 rfl rfl (j := 0) rfl dX6_nearest_6 (v := (M c0 0)) rfl rfl ?_
    have h_110 := Inv.g hI_M hk_c0 rfl 0 (a := 0) (b := 48) rfl rfl
    refine kx_icmp_ge 12 F 57 dX6_nearest_9 (by decide) rfl (by omega) (by omega) (fun h_111 => ?_) (fun h_111 => ?_)
    · refine kx_iload_n 58 F 1 dX6_nearest_57 rfl rfl rfl ?_
      exact kx_iret F hQ ⟨rfl, (by omega)⟩ dX6_nearest_58
    · refine kx_aload_n 13 F 0 dX6_nearest_12 rfl rfl rfl ?_
      refine kx_getr 16 F fl_X6_15 hk_c0 rfl rfl (j := 1) rfl dX6_nearest_13 (v := (M c0 1)) rfl rfl ?_
      have hk_112 : kd (M c0 1) = 32 := Inv.r hI_M hk_c0 rfl 1 rfl rfl
      refine kx_iload_n 17 F 2 dX6_nearest_16 rfl rfl rfl ?_
      refine kx_iald 18 F hk_112 rfl rfl (by omega) (by decide) dX6_nearest_17 (v := (M (M c0 1) x2_104)) rfl rfl ?_
      have h_113 := Inv.g hI_M hk_112 rfl x2_104 (a := 0) (b := 47) rfl rfl
      refine kx_istore_n 19 F 3 (lo' := [some (vR G c0), some (vI x1_103), some (vI x2_104), some (vI (M (M c0 1) x2_104))]) dX6_nearest_18 rfl (by decide) rfl rfl rfl ?_
      refine kx_aload_n 20 F 0 dX6_nearest_19 rfl rfl rfl ?_
      refine kx_getr 23 F fl_X6_27 hk_c0 rfl rfl (j := 4) rfl dX6_nearest_20 (v := (M c0 4)) rfl rfl ?_
      have hk_114 : kd (M c0 4) = 35 := Inv.r hI_M hk_c0 rfl 4 rfl rfl
      refine kx_iload_n 24 F 3 dX6_nearest_23 rfl rfl rfl ?_
      refine kx_iald 25 F hk_114 rfl rfl (by omega) (by decide) dX6_nearest_24 (v := (M (M c0 4) (M (M c0 1) x2_104))) rfl rfl ?_
      have h_115 := Inv.g hI_M hk_114 rfl (M (M c0 1) x2_104) (a := 0) (b := 2) rfl rfl
      refine kx_iconst 26 F dX6_nearest_25 rfl ?_
      have J_124 : ∀ (x1_123 : Int), (-1) ≤ x1_123 ∧ x1_123 ≤ 1000000000 → KJ false G X M 51 [some (vR G c0), some (vI x1_123), some (vI x2_104), none] [] := by
        intro x1_123 h_125
        refine kx_iinc 54 F 2 (v := x2_104 + 1) (lo' := [some (vR G c0), some (vI x1_123), some (vI (x2_104 + 1)), none]) dX6_nearest_51 rfl (by omega) (by decide) rfl rfl rfl ?_
        refine kx_goto 4 F dX6_nearest_54 (by decide) ?_
        exact ih_107 _ (by omega) x1_123 (x2_104 + 1) (by omega) rfl
      refine kx_icmp_ne 29 F 51 dX6_nearest_26 (by decide) rfl (by omega) (by decide) (fun h_126 => ?_) (fun h_126 => ?_)
      · refine kx_drop 3 (lo' := [some (vR G c0), some (vI x1_103), some (vI x2_104), none]) rfl ?_
        exact J_124 x1_103 (by omega)
      · refine kx_iload_n 30 F 1 dX6_nearest_29 rfl rfl rfl ?_
        refine kx_iconst 31 F dX6_nearest_30 rfl ?_
        have J_131 : KJ false G X M 44 [some (vR G c0), none, some (vI x2_104), some (vI (M (M c0 1) x2_104))] [] := by
          refine kx_aload_n 45 F 0 dX6_nearest_44 rfl rfl rfl ?_
          refine kx_getr 48 F fl_X6_21 hk_c0 rfl rfl (j := 2) rfl dX6_nearest_45 (v := (M c0 2)) rfl rfl ?_
          have hk_133 : kd (M c0 2) = 33 := Inv.r hI_M hk_c0 rfl 2 rfl rfl
          refine kx_iload_n 49 F 3 dX6_nearest_48 rfl rfl rfl ?_
          refine kx_iald 50 F hk_133 rfl rfl (by omega) (by decide) dX6_nearest_49 (v := (M (M c0 2) (M (M c0 1) x2_104))) rfl rfl ?_
          have h_134 := Inv.g hI_M hk_133 rfl (M (M c0 1) x2_104) (a := 0) (b := 1000000000) rfl rfl
          refine kx_istore_n 51 F 1 (lo' := [some (vR G c0), some (vI (M (M c0 2) (M (M c0 1) x2_104))), some (vI x2_104), some (vI (M (M c0 1) x2_104))]) dX6_nearest_50 rfl (by decide) rfl rfl rfl ?_
          refine kx_drop 3 (lo' := [some (vR G c0), some (vI (M (M c0 2) (M (M c0 1) x2_104))), some (vI x2_104), none]) rfl ?_
          exact J_124 (M (M c0 2) (M (M c0 1) x2_104)) (by omega)
        refine kx_icmp_eq 34 F 44 dX6_nearest_31 (by decide) rfl (by omega) (by decide) (fun h_135 => ?_) (fun h_135 => ?_)
        · refine kx_drop 1 (lo' := [some (vR G c0), none, some (vI x2_104), some (vI (M (M c0 1) x2_104))]) rfl ?_
          exact J_131 
        · refine kx_aload_n 35 F 0 dX6_nearest_34 rfl rfl rfl ?_
          refine kx_getr 38 F fl_X6_21 hk_c0 rfl rfl (j := 2) rfl dX6_nearest_35 (v := (M c0 2)) rfl rfl ?_
          have hk_136 : kd (M c0 2) = 33 := Inv.r hI_M hk_c0 rfl 2 rfl rfl
          refine kx_iload_n 39 F 3 dX6_nearest_38 rfl rfl rfl ?_
          refine kx_iald 40 F hk_136 rfl rfl (by omega) (by decide) dX6_nearest_39 (v := (M (M c0 2) (M (M c0 1) x2_104))) rfl rfl ?_
          have h_137 := Inv.g hI_M hk_136 rfl (M (M c0 1) x2_104) (a := 0) (b := 1000000000) rfl rfl
          refine kx_iload_n 41 F 1 dX6_nearest_40 rfl rfl rfl ?_
          refine kx_icmp_ge 44 F 51 dX6_nearest_41 (by decide) rfl (by omega) (by omega) (fun h_138 => ?_) (fun h_138 => ?_)
          · refine kx_drop 3 (lo' := [some (vR G c0), some (vI x1_103), some (vI x2_104), none]) rfl ?_
            exact J_124 x1_103 (by omega)
          · refine kx_drop 1 (lo' := [some (vR G c0), none, some (vI x2_104), some (vI (M (M c0 1) x2_104))]) rfl ?_
            exact J_131 
  exact L_105 _ (-1) 0 (by omega) rfl
abbrev f_c_X6_offerB : List (Nat × Int) := [(31, 0), (32, -1), (33, -1), (34, -1), (35, -1)]
set_option maxHeartbeats 4000000 in
set_option maxRecDepth 100000 in
theorem c_X6_offerB (G : KG) (l : Launch) (M : Mem) (c0 : Int) (a1 : Int) (a2 : Int) (a3 : Int) (hI_M : Inv false M) (hk_c0 : kd c0 = 31) (hpre : -2147483648 ≤ a1 ∧ a1 ≤ 2147483647 ∧ -2147483648 ≤ a2 ∧ a2 ≤ 2147483647 ∧ -2147483648 ≤ a3 ∧ a3 ≤ 2147483647 ∧ 0 ≤ a2 ∧ a2 ≤ 1000000000) (hX_M : XX M) : KC false G l yX6_offer cX6_offer 4 none (1, 23) [vR G c0, vI a1, vI a2, vI a3] M (fun A => kQv false G A (fun (N : Mem) => Inv false N ∧ Fr f_c_X6_offerB M N ∧ XX N)) := by
  refine kx_met (lo := [some (vR G c0), some (vI a1), some (vI a2), some (vI a3)]) (by decide) (Nat.le_of_ble_eq_true rfl) rfl ?_
  intro X F hQ
  have hF_M : Fr f_c_X6_offerB M M := Fr.rf _ _
  refine kx_iload_n 1 F 1 dX6_offer_0 rfl rfl rfl ?_
  refine kx_if_lt 4 F 23 dX6_offer_1 (by decide) rfl (by omega) (fun h_1 => ?_) (fun h_1 => ?_)
  · exact kx_vret F hQ ⟨hI_M, hF_M, hX_M⟩ dX6_offer_23
  · refine kx_iload_n 5 F 1 dX6_offer_4 rfl rfl rfl ?_
    refine kx_aload_n 6 F 0 dX6_offer_5 rfl rfl rfl ?_
    refine kx_getr 9 F fl_X6_27 hk_c0 rfl rfl (j := 4) rfl dX6_offer_6 (v := (M c0 4)) rfl rfl ?_
    have hk_2 : kd (M c0 4) = 35 := Inv.r hI_M hk_c0 rfl 4 rfl rfl
    refine kx_alen 10 F hk_2 rfl rfl (z := 48) (by decide) dX6_offer_9 rfl ?_
    refine kx_icmp_ge 13 F 23 dX6_offer_10 (by decide) rfl (by omega) (by decide) (fun h_3 => ?_) (fun h_3 => ?_)
    · exact kx_vret F hQ ⟨hI_M, hF_M, hX_M⟩ dX6_offer_23
    · refine kx_aload_n 14 F 0 dX6_offer_13 rfl rfl rfl ?_
      refine kx_getr 17 F fl_X6_27 hk_c0 rfl rfl (j := 4) rfl dX6_offer_14 (v := (M c0 4)) rfl rfl ?_
      refine kx_iload_n 18 F 1 dX6_offer_17 rfl rfl rfl ?_
      refine kx_iald 19 F hk_2 rfl rfl (by omega) (by decide) dX6_offer_18 (v := (M (M c0 4) a1)) rfl rfl ?_
      have h_4 := Inv.g hI_M hk_2 rfl a1 (a := 0) (b := 2) rfl rfl
      refine kx_iconst 20 F dX6_offer_19 rfl ?_
      refine kx_icmp_ne 23 F 24 dX6_offer_20 (by decide) rfl (by omega) (by decide) (fun h_5 => ?_) (fun h_5 => ?_)
      · refine kx_aload_n 25 F 0 dX6_offer_24 rfl rfl rfl ?_
        refine kx_getr 28 F fl_X6_27 hk_c0 rfl rfl (j := 4) rfl dX6_offer_25 (v := (M c0 4)) rfl rfl ?_
        refine kx_iload_n 29 F 1 dX6_offer_28 rfl rfl rfl ?_
        refine kx_iald 30 F hk_2 rfl rfl (by omega) (by decide) dX6_offer_29 (v := (M (M c0 4) a1)) rfl rfl ?_
        refine kx_if_ne 33 F 63 dX6_offer_30 (by decide) rfl (by omega) (fun h_6 => ?_) (fun h_6 => ?_)
        · refine kx_iload_n 64 F 2 dX6_offer_63 rfl rfl rfl ?_
          refine kx_iload_n 65 F 3 dX6_offer_64 rfl rfl rfl ?_
          refine kx_aload_n 66 F 0 dX6_offer_65 rfl rfl rfl ?_
          refine kx_getr 69 F fl_X6_21 hk_c0 rfl rfl (j := 2) rfl dX6_offer_66 (v := (M c0 2)) rfl rfl ?_
          have hk_7 : kd (M c0 2) = 33 := Inv.r hI_M hk_c0 rfl 2 rfl rfl
          refine kx_iload_n 70 F 1 dX6_offer_69 rfl rfl rfl ?_
          refine kx_iald 71 F hk_7 rfl rfl (by omega) (by decide) dX6_offer_70 (v := (M (M c0 2) a1)) rfl rfl ?_
          have h_8 := Inv.g hI_M hk_7 rfl a1 (a := 0) (b := 1000000000) rfl rfl
          refine kx_aload_n 72 F 0 dX6_offer_71 rfl rfl rfl ?_
          refine kx_getr 75 F fl_X6_24 hk_c0 rfl rfl (j := 3) rfl dX6_offer_72 (v := (M c0 3)) rfl rfl ?_
          have hk_9 : kd (M c0 3) = 34 := Inv.r hI_M hk_c0 rfl 3 rfl rfl
          refine kx_iload_n 76 F 1 dX6_offer_75 rfl rfl rfl ?_
          refine kx_iald 77 F hk_9 rfl rfl (by omega) (by decide) dX6_offer_76 (v := (M (M c0 3) a1)) rfl rfl ?_
          have h_10 := Inv.g hI_M hk_9 rfl a1 (a := (-2147483648)) (b := 2147483647) rfl rfl
          refine kx_Si 80 F (As := [vI a2, vI a3, vI (M (M c0 2) a1), vI (M (M c0 3) a1)]) (st := []) sd_X6_34 (c_X6_isBefore G l M a2 a3 (M (M c0 2) a1) (M (M c0 3) a1) hI_M (by omega)) ⟨by decide, by decide⟩ rfl rfl (Nat.le_of_ble_eq_true rfl) dX6_offer_77 rfl ?_
          intro r_11 N_12 q_13
          obtain ⟨rfl, q_13c⟩ := q_13
          refine kx_if_ne 83 F 84 dX6_offer_80 (by decide) rfl (by omega) (fun h_14 => ?_) (fun h_14 => ?_)
          · refine kx_aload_n 85 F 0 dX6_offer_84 rfl rfl rfl ?_
            refine kx_getr 88 F fl_X6_21 hk_c0 rfl rfl (j := 2) rfl dX6_offer_85 (v := (M c0 2)) rfl rfl ?_
            refine kx_iload_n 89 F 1 dX6_offer_88 rfl rfl rfl ?_
            refine kx_iload_n 90 F 2 dX6_offer_89 rfl rfl rfl ?_
            refine kx_iast 91 F hk_7 rfl rfl (by omega) (by decide) dX6_offer_90 rfl ?_
            intro N_15 hM_N_15
            have hI_N_15 : Inv false N_15 := Inv.u hI_M hM_N_15 hk_7 (a := 0) (b := 1000000000) rfl rfl rfl (by omega)
            have hF_N_15 : Fr f_c_X6_offerB M N_15 := Fr.u hF_M hM_N_15 hk_7 rfl
            have hX_N_15 : XX N_15 := XX.st hX_M hI_M hM_N_15 hk_7 rfl
            refine kx_aload_n 92 F 0 dX6_offer_91 rfl rfl rfl ?_
            refine kx_getr 95 F fl_X6_24 hk_c0 rfl rfl (j := 3) rfl dX6_offer_92 (v := (M c0 3)) (by rw [hM_N_15, mu_k hk_c0 hk_7 rfl]) rfl ?_
            refine kx_iload_n 96 F 1 dX6_offer_95 rfl rfl rfl ?_
            refine kx_iload_n 97 F 3 dX6_offer_96 rfl rfl rfl ?_
            refine kx_iast 98 F hk_9 rfl rfl (by omega) (by decide) dX6_offer_97 rfl ?_
            intro N_16 hM_N_16
            have hI_N_16 : Inv false N_16 := Inv.u hI_N_15 hM_N_16 hk_9 (a := (-2147483648)) (b := 2147483647) rfl rfl rfl (by omega)
            have hF_N_16 : Fr f_c_X6_offerB M N_16 := Fr.u hF_N_15 hM_N_16 hk_9 rfl
            have hX_N_16 : XX N_16 := XX.st hX_N_15 hI_N_15 hM_N_16 hk_9 rfl
            exact kx_vret F hQ ⟨hI_N_16, hF_N_16, hX_N_16⟩ dX6_offer_98
          · exact kx_vret F hQ ⟨hI_M, hF_M, hX_M⟩ dX6_offer_83
        · have hk_17 : kd (M c0 1) = 32 := Inv.r hI_M hk_c0 rfl 1 rfl rfl
          have h_18 := Inv.g hI_M hk_c0 rfl 0 (a := 0) (b := 48) rfl rfl
          have h_19 : M c0 0 < 48 := ShOK.lt (hX_M.2.2.1 c0 hk_c0) (by omega) (fun i => by have := Inv.g hI_M hk_17 rfl i (a := 0) (b := 47) rfl rfl; omega) (m := a1) (by omega) (by omega)
          refine kx_aload_n 34 F 0 dX6_offer_33 rfl rfl rfl ?_
          refine kx_getr 37 F fl_X6_27 hk_c0 rfl rfl (j := 4) rfl dX6_offer_34 (v := (M c0 4)) rfl rfl ?_
          refine kx_iload_n 38 F 1 dX6_offer_37 rfl rfl rfl ?_
          refine kx_iconst 39 F dX6_offer_38 rfl ?_
          refine kx_iast 40 F hk_2 rfl rfl (by omega) (by decide) dX6_offer_39 rfl ?_
          intro N_20 hM_N_20
          have hI_N_20 : Inv false N_20 := Inv.u hI_M hM_N_20 hk_2 (a := 0) (b := 2) rfl rfl rfl (by omega)
          have hF_N_20 : Fr f_c_X6_offerB M N_20 := Fr.u hF_M hM_N_20 hk_2 rfl
          refine kx_aload_n 41 F 0 dX6_offer_40 rfl rfl rfl ?_
          refine kx_getr 44 F fl_X6_15 hk_c0 rfl rfl (j := 1) rfl dX6_offer_41 (v := (M c0 1)) (by rw [hM_N_20, mu_k hk_c0 hk_2 rfl]) rfl ?_
          refine kx_aload_n 45 F 0 dX6_offer_44 rfl rfl rfl ?_
          refine kx_geti 48 F fl_X6_30 hk_c0 rfl rfl (j := 0) rfl dX6_offer_45 (v := (M c0 0)) (by rw [hM_N_20, mu_k hk_c0 hk_2 rfl]) rfl ?_
          refine kx_iload_n 49 F 1 dX6_offer_48 rfl rfl rfl ?_
          refine kx_iast 50 F hk_17 rfl rfl (by omega) (by decide) dX6_offer_49 rfl ?_
          intro N_21 hM_N_21
          have hI_N_21 : Inv false N_21 := Inv.u hI_N_20 hM_N_21 hk_17 (a := 0) (b := 47) rfl rfl rfl (by omega)
          have hF_N_21 : Fr f_c_X6_offerB M N_21 := Fr.u hF_N_20 hM_N_21 hk_17 rfl
          refine kx_aload_n 51 F 0 dX6_offer_50 rfl rfl rfl ?_
          refine kx_dup 52 F dX6_offer_51 rfl rfl ?_
          refine kx_geti 55 F fl_X6_30 hk_c0 rfl rfl (j := 0) rfl dX6_offer_52 (v := (M c0 0)) (by rw [hM_N_21, mu_k hk_c0 hk_17 rfl, hM_N_20, mu_k hk_c0 hk_2 rfl]) rfl ?_
          refine kx_iconst 56 F dX6_offer_55 rfl ?_
          refine kx_iadd 57 F (v := (M c0 0) + 1) dX6_offer_56 rfl rfl ?_
          refine kx_puti 60 F fw_X6_30 rfl hk_c0 rfl rfl (j := 0) rfl dX6_offer_57 rfl ?_
          intro N_22 hM_N_22
          have hI_N_22 : Inv false N_22 := Inv.u hI_N_21 hM_N_22 hk_c0 (a := 0) (b := 48) rfl rfl rfl (by omega)
          have hF_N_22 : Fr f_c_X6_offerB M N_22 := Fr.u hF_N_21 hM_N_22 hk_c0 rfl
          have hs_N_22 : ShOK 48 N_22 c0 := ShOK.ins (hX_M.2.2.1 c0 hk_c0) (m := a1) (by omega) (by omega) (by rw [hM_N_22, mu_s]) (by rw [hM_N_22, mu_i (by omega), hM_N_21, mu_k hk_c0 hk_17 rfl, hM_N_20, mu_k hk_c0 hk_2 rfl]) (by rw [hM_N_22, mu_i (by omega), hM_N_21, mu_k hk_c0 hk_17 rfl, hM_N_20, mu_k hk_c0 hk_2 rfl]) (fun i => by rw [hM_N_22, mu_k hk_17 hk_c0 rfl, hM_N_21, mu_at, hM_N_20, mu_k hk_17 hk_2 rfl]) (fun i => by rw [hM_N_22, mu_k hk_2 hk_c0 rfl, hM_N_21, mu_k hk_2 hk_17 rfl, hM_N_20, mu_at])
          have hX_N_22 : XX N_22 := XX.shB hX_M hI_M hF_N_22 rfl hk_c0 hs_N_22
          refine kx_goto 84 F dX6_offer_60 (by decide) ?_
          refine kx_aload_n 85 F 0 dX6_offer_84 rfl rfl rfl ?_
          refine kx_getr 88 F fl_X6_21 hk_c0 rfl rfl (j := 2) rfl dX6_offer_85 (v := (M c0 2)) (by rw [hM_N_22, mu_i (by omega), hM_N_21, mu_k hk_c0 hk_17 rfl, hM_N_20, mu_k hk_c0 hk_2 rfl]) rfl ?_
          have hk_23 : kd (M c0 2) = 33 := Inv.r hI_M hk_c0 rfl 2 rfl rfl
          refine kx_iload_n 89 F 1 dX6_offer_88 rfl rfl rfl ?_
          refine kx_iload_n 90 F 2 dX6_offer_89 rfl rfl rfl ?_
          refine kx_iast 91 F hk_23 rfl rfl (by omega) (by decide) dX6_offer_90 rfl ?_
          intro N_24 hM_N_24
          have hI_N_24 : Inv false N_24 := Inv.u hI_N_22 hM_N_24 hk_23 (a := 0) (b := 1000000000) rfl rfl rfl (by omega)
          have hF_N_24 : Fr f_c_X6_offerB M N_24 := Fr.u hF_N_22 hM_N_24 hk_23 rfl
          have hX_N_24 : XX N_24 := XX.st hX_N_22 hI_N_22 hM_N_24 hk_23 rfl
          refine kx_aload_n 92 F 0 dX6_offer_91 rfl rfl rfl ?_
          refine kx_getr 95 F fl_X6_24 hk_c0 rfl rfl (j := 3) rfl dX6_offer_92 (v := (M c0 3)) (by rw [hM_N_24, mu_k hk_c0 hk_23 rfl, hM_N_22, mu_i (by omega), hM_N_21, mu_k hk_c0 hk_17 rfl, hM_N_20, mu_k hk_c0 hk_2 rfl]) rfl ?_
          have hk_25 : kd (M c0 3) = 34 := Inv.r hI_M hk_c0 rfl 3 rfl rfl
          refine kx_iload_n 96 F 1 dX6_offer_95 rfl rfl rfl ?_
          refine kx_iload_n 97 F 3 dX6_offer_96 rfl rfl rfl ?_
          refine kx_iast 98 F hk_25 rfl rfl (by omega) (by decide) dX6_offer_97 rfl ?_
          intro N_26 hM_N_26
          have hI_N_26 : Inv false N_26 := Inv.u hI_N_24 hM_N_26 hk_25 (a := (-2147483648)) (b := 2147483647) rfl rfl rfl (by omega)
          have hF_N_26 : Fr f_c_X6_offerB M N_26 := Fr.u hF_N_24 hM_N_26 hk_25 rfl
          have hX_N_26 : XX N_26 := XX.st hX_N_24 hI_N_24 hM_N_26 hk_25 rfl
          exact kx_vret F hQ ⟨hI_N_26, hF_N_26, hX_N_26⟩ dX6_offer_98
      · exact kx_vret F hQ ⟨hI_M, hF_M, hX_M⟩ dX6_offer_23
abbrev f_c_X6_closesB : List (Nat × Int) := [(35, -1)]
set_option maxHeartbeats 4000000 in
set_option maxRecDepth 100000 in
theorem c_X6_closesB (G : KG) (l : Launch) (M : Mem) (c0 : Int) (a1 : Int) (a2 : Int) (hI_M : Inv false M) (hk_c0 : kd c0 = 31) (hpre : -2147483648 ≤ a1 ∧ a1 ≤ 2147483647 ∧ -2147483648 ≤ a2 ∧ a2 ≤ 2147483647 ∧ 0 ≤ a1 ∧ a1 ≤ 47) (hX_M : XX M) : KC false G l yX6_closes cX6_closes 3 (some .boolean) (0, 0) [vR G c0, vI a1, vI a2] M (fun A => kQi false G A (fun (r : Int) (N : Mem) => Inv false N ∧ Fr f_c_X6_closesB M N ∧ (0 ≤ r ∧ r ≤ 1) ∧ XX N)) := by
  refine kx_met (lo := [some (vR G c0), some (vI a1), some (vI a2)]) (by decide) (Nat.le_of_ble_eq_true rfl) rfl ?_
  intro X F hQ
  have hF_M : Fr f_c_X6_closesB M M := Fr.rf _ _
  refine kx_aload_n 1 F 0 dX6_closes_0 rfl rfl rfl ?_
  refine kx_getr 4 F fl_X6_27 hk_c0 rfl rfl (j := 4) rfl dX6_closes_1 (v := (M c0 4)) rfl rfl ?_
  have hk_1 : kd (M c0 4) = 35 := Inv.r hI_M hk_c0 rfl 4 rfl rfl
  refine kx_iload_n 5 F 1 dX6_closes_4 rfl rfl rfl ?_
  refine kx_iald 6 F hk_1 rfl rfl (by omega) (by decide) dX6_closes_5 (v := (M (M c0 4) a1)) rfl rfl ?_
  have h_2 := Inv.g hI_M hk_1 rfl a1 (a := 0) (b := 2) rfl rfl
  refine kx_iconst 7 F dX6_closes_6 rfl ?_
  refine kx_icmp_ne 10 F 20 dX6_closes_7 (by decide) rfl (by omega) (by decide) (fun h_3 => ?_) (fun h_3 => ?_)
  · refine kx_iconst 21 F dX6_closes_20 rfl ?_
    exact kx_zret F hQ (by omega) ⟨hI_M, hF_M, (by omega), hX_M⟩ dX6_closes_21
  · refine kx_aload_n 11 F 0 dX6_closes_10 rfl rfl rfl ?_
    refine kx_getr 14 F fl_X6_21 hk_c0 rfl rfl (j := 2) rfl dX6_closes_11 (v := (M c0 2)) rfl rfl ?_
    have hk_4 : kd (M c0 2) = 33 := Inv.r hI_M hk_c0 rfl 2 rfl rfl
    refine kx_iload_n 15 F 1 dX6_closes_14 rfl rfl rfl ?_
    refine kx_iald 16 F hk_4 rfl rfl (by omega) (by decide) dX6_closes_15 (v := (M (M c0 2) a1)) rfl rfl ?_
    have h_5 := Inv.g hI_M hk_4 rfl a1 (a := 0) (b := 1000000000) rfl rfl
    refine kx_iload_n 17 F 2 dX6_closes_16 rfl rfl rfl ?_
    refine kx_icmp_eq 20 F 22 dX6_closes_17 (by decide) rfl (by omega) (by omega) (fun h_6 => ?_) (fun h_6 => ?_)
    · refine kx_aload_n 23 F 0 dX6_closes_22 rfl rfl rfl ?_
      refine kx_getr 26 F fl_X6_27 hk_c0 rfl rfl (j := 4) rfl dX6_closes_23 (v := (M c0 4)) rfl rfl ?_
      refine kx_iload_n 27 F 1 dX6_closes_26 rfl rfl rfl ?_
      refine kx_iconst 28 F dX6_closes_27 rfl ?_
      refine kx_iast 29 F hk_1 rfl rfl (by omega) (by decide) dX6_closes_28 rfl ?_
      intro N_7 hM_N_7
      have hI_N_7 : Inv false N_7 := Inv.u hI_M hM_N_7 hk_1 (a := 0) (b := 2) rfl rfl rfl (by omega)
      have hF_N_7 : Fr f_c_X6_closesB M N_7 := Fr.u hF_M hM_N_7 hk_1 rfl
      have hk_8 : kd (M c0 1) = 32 := Inv.r hI_M hk_c0 rfl 1 rfl rfl
      have hs_N_7 : ShOK 48 N_7 c0 := ShOK.mood (hX_M.2.2.1 c0 hk_c0) (m := a1) (v := 2) (by omega) (by decide) (by rw [hM_N_7, mu_k hk_c0 hk_1 rfl]) (by rw [hM_N_7, mu_k hk_c0 hk_1 rfl]) (by rw [hM_N_7, mu_k hk_c0 hk_1 rfl]) (fun i => by rw [hM_N_7, mu_k hk_8 hk_1 rfl]) (fun i => by rw [hM_N_7, mu_at])
      have hX_N_7 : XX N_7 := XX.shB hX_M hI_M hF_N_7 rfl hk_c0 hs_N_7
      refine kx_iconst 30 F dX6_closes_29 rfl ?_
      exact kx_zret F hQ (by omega) ⟨hI_N_7, hF_N_7, (by omega), hX_N_7⟩ dX6_closes_30
    · refine kx_iconst 21 F dX6_closes_20 rfl ?_
      exact kx_zret F hQ (by omega) ⟨hI_M, hF_M, (by omega), hX_M⟩ dX6_closes_21
abbrev f_c_X6_clearB : List (Nat × Int) := [(31, 0), (35, -1)]
set_option maxHeartbeats 4000000 in
set_option maxRecDepth 100000 in
theorem c_X6_clearB (G : KG) (l : Launch) (M : Mem) (c0 : Int) (hI_M : Inv false M) (hk_c0 : kd c0 = 31) (hX_M : XX M) : KC false G l yX6_clear cX6_clear 2 none (0, 0) [vR G c0] M (fun A => kQv false G A (fun (N : Mem) => Inv false N ∧ Fr f_c_X6_clearB M N ∧ XX N)) := by
  refine kx_met (lo := [some (vR G c0), none]) (by decide) (Nat.le_of_ble_eq_true rfl) rfl ?_
  intro X F hQ
  have hF_M : Fr f_c_X6_clearB M M := Fr.rf _ _
  refine kx_iconst 1 F dX6_clear_0 rfl ?_
  refine kx_istore_n 2 F 1 (lo' := [some (vR G c0), some (vI 0)]) dX6_clear_1 rfl (by decide) rfl rfl rfl ?_
  have L_66 : ∀ (n_67 : Nat) (x1_64 : Int) (N_65 : Mem), Inv false N_65 → Fr f_c_X6_clearB M N_65 → ShCl 48 M N_65 c0 x1_64 → 0 ≤ x1_64 ∧ x1_64 ≤ 48 → (48 - (x1_64)).toNat = n_67 → KJ false G X N_65 2 [some (vR G c0), some (vI x1_64)] [] := by
    intro n_67
    refine Nat.strongRecOn n_67 ?_
    intro n_67 ih_68 x1_64 N_65 hI_N_65 hF_N_65 hp_71 h_69 hm_70
    refine kx_iload_n 3 F 1 dX6_clear_2 rfl rfl rfl ?_
    refine kx_aload_n 4 F 0 dX6_clear_3 rfl rfl rfl ?_
    refine kx_geti 7 F fl_X6_30 hk_c0 rfl rfl (j := 0) rfl dX6_clear_4 (v := (N_65 c0 0)) rfl rfl ?_
    have h_72 := Inv.g hI_N_65 hk_c0 rfl 0 (a := 0) (b := 48) rfl rfl
    refine kx_icmp_ge 10 F 28 dX6_clear_7 (by decide) rfl (by omega) (by omega) (fun h_73 => ?_) (fun h_73 => ?_)
    · refine kx_aload_n 29 F 0 dX6_clear_28 rfl rfl rfl ?_
      refine kx_iconst 30 F dX6_clear_29 rfl ?_
      refine kx_puti 33 F fw_X6_30 rfl hk_c0 rfl rfl (j := 0) rfl dX6_clear_30 rfl ?_
      intro N_74 hM_N_74
      have hI_N_74 : Inv false N_74 := Inv.u hI_N_65 hM_N_74 hk_c0 (a := 0) (b := 48) rfl rfl rfl (by omega)
      have hF_N_74 : Fr f_c_X6_clearB M N_74 := Fr.u hF_N_65 hM_N_74 hk_c0 rfl
      have hk_75 : kd (M c0 1) = 32 := Inv.r hI_M hk_c0 rfl 1 rfl rfl
      have hk_76 : kd (M c0 4) = 35 := Inv.r hI_M hk_c0 rfl 4 rfl rfl
      have h_77 := hp_71.1
      have hs_N_74 : ShOK 48 N_74 c0 := ShCl.done hp_71 (by omega) (by rw [hM_N_74, mu_s]) (by rw [hM_N_74, mu_i (by omega)]) (by rw [hM_N_74, mu_i (by omega)]) (fun i => by rw [hM_N_74, mu_k hk_76 hk_c0 rfl])
      have hX_N_74 : XX N_74 := XX.shB hX_M hI_M hF_N_74 rfl hk_c0 hs_N_74
      exact kx_vret F hQ ⟨hI_N_74, hF_N_74, hX_N_74⟩ dX6_clear_33
    · refine kx_aload_n 11 F 0 dX6_clear_10 rfl rfl rfl ?_
      refine kx_getr 14 F fl_X6_27 hk_c0 rfl rfl (j := 4) rfl dX6_clear_11 (v := (M c0 4)) (by rw [Fr.e hF_N_65 hk_c0 _ rfl]) rfl ?_
      have hk_78 : kd (M c0 4) = 35 := Inv.r hI_M hk_c0 rfl 4 rfl rfl
      refine kx_aload_n 15 F 0 dX6_clear_14 rfl rfl rfl ?_
      refine kx_getr 18 F fl_X6_15 hk_c0 rfl rfl (j := 1) rfl dX6_clear_15 (v := (M c0 1)) (by rw [Fr.e hF_N_65 hk_c0 _ rfl]) rfl ?_
      have hk_79 : kd (M c0 1) = 32 := Inv.r hI_M hk_c0 rfl 1 rfl rfl
      refine kx_iload_n 19 F 1 dX6_clear_18 rfl rfl rfl ?_
      refine kx_iald 20 F hk_79 rfl rfl (by omega) (by decide) dX6_clear_19 (v := (M (M c0 1) x1_64)) (by rw [Fr.e hF_N_65 hk_79 _ rfl]) rfl ?_
      have h_80 := Inv.g hI_M hk_79 rfl x1_64 (a := 0) (b := 47) rfl rfl
      refine kx_iconst 21 F dX6_clear_20 rfl ?_
      refine kx_iast 22 F hk_78 rfl rfl (by omega) (by decide) dX6_clear_21 rfl ?_
      intro N_81 hM_N_81
      have hI_N_81 : Inv false N_81 := Inv.u hI_N_65 hM_N_81 hk_78 (a := 0) (b := 2) rfl rfl rfl (by omega)
      have hF_N_81 : Fr f_c_X6_clearB M N_81 := Fr.u hF_N_65 hM_N_81 hk_78 rfl
      refine kx_iinc 25 F 1 (v := x1_64 + 1) (lo' := [some (vR G c0), some (vI (x1_64 + 1))]) dX6_clear_22 rfl (by omega) (by decide) rfl rfl rfl ?_
      refine kx_goto 2 F dX6_clear_25 (by decide) ?_
      exact ih_68 _ (by omega) (x1_64 + 1) N_81 hI_N_81 hF_N_81 (ShCl.step hp_71 (by rw [hM_N_81, mu_k hk_c0 hk_78 rfl]) (by rw [hM_N_81, mu_k hk_c0 hk_78 rfl]) (by rw [hM_N_81, mu_k hk_c0 hk_78 rfl]) (fun i => by rw [hM_N_81, mu_k hk_79 hk_78 rfl]) (fun i => by rw [hM_N_81, mu_at])) (by omega) rfl
  exact L_66 _ 0 M hI_M hF_M (ShCl.start (hX_M.2.2.1 c0 hk_c0)) (by omega) rfl
set_option maxHeartbeats 4000000 in
set_option maxRecDepth 100000 in
theorem c_X6_nearestC (G : KG) (l : Launch) (M : Mem) (c0 : Int) (hI_M : Inv false M) (hk_c0 : kd c0 = 36) : KC false G l yX6_nearest cX6_nearest 4 (some .int) (0, 0) [vR G c0] M (fun A => kQi false G A (fun (r : Int) (N : Mem) => M = N ∧ (r ≥ -1 ∧ r ≤ 1000000000))) := by
  refine kx_met (lo := [some (vR G c0), none, none, none]) (by decide) (Nat.le_of_ble_eq_true rfl) rfl ?_
  intro X F hQ
  refine kx_iconst 1 F dX6_nearest_0 rfl ?_
  refine kx_istore_n 2 F 1 (lo' := [some (vR G c0), some (vI (-1)), none, none]) dX6_nearest_1 rfl (by decide) rfl rfl rfl ?_
  refine kx_iconst 3 F dX6_nearest_2 rfl ?_
  refine kx_istore_n 4 F 2 (lo' := [some (vR G c0), some (vI (-1)), some (vI 0), none]) dX6_nearest_3 rfl (by decide) rfl rfl rfl ?_
  have L_105 : ∀ (n_106 : Nat) (x1_103 : Int) (x2_104 : Int), (-1) ≤ x1_103 ∧ x1_103 ≤ 1000000000 ∧ 0 ≤ x2_104 ∧ x2_104 ≤ 576 → (576 - (x2_104)).toNat = n_106 → KJ false G X M 4 [some (vR G c0), some (vI x1_103), some (vI x2_104), none] [] := by
    intro n_106
    refine Nat.strongRecOn n_106 ?_
    intro n_106 ih_107 x1_103 x2_104 h_108 hm_109
    refine kx_iload_n 5 F 2 dX6_nearest_4 rfl rfl rfl ?_
    refine kx_aload_n 6 F 0 dX6_nearest_5 rfl rfl rfl ?_
    refine kx_geti 9 F fl_X6_30 hk_c0 rfl rfl (j := 0) rfl dX6_nearest_6 (v := (M c0 0)) rfl rfl ?_
    have h_110 := Inv.g hI_M hk_c0 rfl 0 (a := 0) (b := 576) rfl rfl
    refine kx_icmp_ge 12 F 57 dX6_nearest_9 (by decide) rfl (by omega) (by omega) (fun h_111 => ?_) (fun h_111 => ?_)
    · refine kx_iload_n 58 F 1 dX6_nearest_57 rfl rfl rfl ?_
      exact kx_iret F hQ ⟨rfl, (by omega)⟩ dX6_nearest_58
    · refine kx_aload_n 13 F 0 dX6_nearest_12 rfl rfl rfl ?_
      refine kx_getr 16 F fl_X6_15 hk_c0 rfl rfl (j := 1) rfl dX6_nearest_13 (v := (M c0 1)) rfl rfl ?_
      have hk_112 : kd (M c0 1) = 37 := Inv.r hI_M hk_c0 rfl 1 rfl rfl
      refine kx_iload_n 17 F 2 dX6_nearest_16 rfl rfl rfl ?_
      refine kx_iald 18 F hk_112 rfl rfl (by omega) (by decide) dX6_nearest_17 (v := (M (M c0 1) x2_104)) rfl rfl ?_
      have h_113 := Inv.g hI_M hk_112 rfl x2_104 (a := 0) (b := 575) rfl rfl
      refine kx_istore_n 19 F 3 (lo' := [some (vR G c0), some (vI x1_103), some (vI x2_104), some (vI (M (M c0 1) x2_104))]) dX6_nearest_18 rfl (by decide) rfl rfl rfl ?_
      refine kx_aload_n 20 F 0 dX6_nearest_19 rfl rfl rfl ?_
      refine kx_getr 23 F fl_X6_27 hk_c0 rfl rfl (j := 4) rfl dX6_nearest_20 (v := (M c0 4)) rfl rfl ?_
      have hk_114 : kd (M c0 4) = 40 := Inv.r hI_M hk_c0 rfl 4 rfl rfl
      refine kx_iload_n 24 F 3 dX6_nearest_23 rfl rfl rfl ?_
      refine kx_iald 25 F hk_114 rfl rfl (by omega) (by decide) dX6_nearest_24 (v := (M (M c0 4) (M (M c0 1) x2_104))) rfl rfl ?_
      have h_115 := Inv.g hI_M hk_114 rfl (M (M c0 1) x2_104) (a := 0) (b := 2) rfl rfl
      refine kx_iconst 26 F dX6_nearest_25 rfl ?_
      have J_124 : ∀ (x1_123 : Int), (-1) ≤ x1_123 ∧ x1_123 ≤ 1000000000 → KJ false G X M 51 [some (vR G c0), some (vI x1_123), some (vI x2_104), none] [] := by
        intro x1_123 h_125
        refine kx_iinc 54 F 2 (v := x2_104 + 1) (lo' := [some (vR G c0), some (vI x1_123), some (vI (x2_104 + 1)), none]) dX6_nearest_51 rfl (by omega) (by decide) rfl rfl rfl ?_
        refine kx_goto 4 F dX6_nearest_54 (by decide) ?_
        exact ih_107 _ (by omega) x1_123 (x2_104 + 1) (by omega) rfl
      refine kx_icmp_ne 29 F 51 dX6_nearest_26 (by decide) rfl (by omega) (by decide) (fun h_126 => ?_) (fun h_126 => ?_)
      · refine kx_drop 3 (lo' := [some (vR G c0), some (vI x1_103), some (vI x2_104), none]) rfl ?_
        exact J_124 x1_103 (by omega)
      · refine kx_iload_n 30 F 1 dX6_nearest_29 rfl rfl rfl ?_
        refine kx_iconst 31 F dX6_nearest_30 rfl ?_
        have J_131 : KJ false G X M 44 [some (vR G c0), none, some (vI x2_104), some (vI (M (M c0 1) x2_104))] [] := by
          refine kx_aload_n 45 F 0 dX6_nearest_44 rfl rfl rfl ?_
          refine kx_getr 48 F fl_X6_21 hk_c0 rfl rfl (j := 2) rfl dX6_nearest_45 (v := (M c0 2)) rfl rfl ?_
          have hk_133 : kd (M c0 2) = 38 := Inv.r hI_M hk_c0 rfl 2 rfl rfl
          refine kx_iload_n 49 F 3 dX6_nearest_48 rfl rfl rfl ?_
          refine kx_iald 50 F hk_133 rfl rfl (by omega) (by decide) dX6_nearest_49 (v := (M (M c0 2) (M (M c0 1) x2_104))) rfl rfl ?_
          have h_134 := Inv.g hI_M hk_133 rfl (M (M c0 1) x2_104) (a := 0) (b := 1000000000) rfl rfl
          refine kx_istore_n 51 F 1 (lo' := [some (vR G c0), some (vI (M (M c0 2) (M (M c0 1) x2_104))), some (vI x2_104), some (vI (M (M c0 1) x2_104))]) dX6_nearest_50 rfl (by decide) rfl rfl rfl ?_
          refine kx_drop 3 (lo' := [some (vR G c0), some (vI (M (M c0 2) (M (M c0 1) x2_104))), some (vI x2_104), none]) rfl ?_
          exact J_124 (M (M c0 2) (M (M c0 1) x2_104)) (by omega)
        refine kx_icmp_eq 34 F 44 dX6_nearest_31 (by decide) rfl (by omega) (by decide) (fun h_135 => ?_) (fun h_135 => ?_)
        · refine kx_drop 1 (lo' := [some (vR G c0), none, some (vI x2_104), some (vI (M (M c0 1) x2_104))]) rfl ?_
          exact J_131 
        · refine kx_aload_n 35 F 0 dX6_nearest_34 rfl rfl rfl ?_
          refine kx_getr 38 F fl_X6_21 hk_c0 rfl rfl (j := 2) rfl dX6_nearest_35 (v := (M c0 2)) rfl rfl ?_
          have hk_136 : kd (M c0 2) = 38 := Inv.r hI_M hk_c0 rfl 2 rfl rfl
          refine kx_iload_n 39 F 3 dX6_nearest_38 rfl rfl rfl ?_
          refine kx_iald 40 F hk_136 rfl rfl (by omega) (by decide) dX6_nearest_39 (v := (M (M c0 2) (M (M c0 1) x2_104))) rfl rfl ?_
          have h_137 := Inv.g hI_M hk_136 rfl (M (M c0 1) x2_104) (a := 0) (b := 1000000000) rfl rfl
          refine kx_iload_n 41 F 1 dX6_nearest_40 rfl rfl rfl ?_
          refine kx_icmp_ge 44 F 51 dX6_nearest_41 (by decide) rfl (by omega) (by omega) (fun h_138 => ?_) (fun h_138 => ?_)
          · refine kx_drop 3 (lo' := [some (vR G c0), some (vI x1_103), some (vI x2_104), none]) rfl ?_
            exact J_124 x1_103 (by omega)
          · refine kx_drop 1 (lo' := [some (vR G c0), none, some (vI x2_104), some (vI (M (M c0 1) x2_104))]) rfl ?_
            exact J_131 
  exact L_105 _ (-1) 0 (by omega) rfl
set_option maxHeartbeats 4000000 in
set_option maxRecDepth 100000 in
theorem c_X6_isClosedC (G : KG) (l : Launch) (M : Mem) (c0 : Int) (a1 : Int) (hI_M : Inv false M) (hk_c0 : kd c0 = 36) (hpre : -2147483648 ≤ a1 ∧ a1 ≤ 2147483647) : KC false G l yX6_isClosed cX6_isClosed 2 (some .boolean) (0, 0) [vR G c0, vI a1] M (fun A => kQi false G A (fun (r : Int) (N : Mem) => M = N ∧ ((r = 1 ∧ 0 ≤ a1 ∧ a1 ≤ 575) ∨ (r = 0)))) := by
  refine kx_met (lo := [some (vR G c0), some (vI a1)]) (by decide) (Nat.le_of_ble_eq_true rfl) rfl ?_
  intro X F hQ
  refine kx_iload_n 1 F 1 dX6_isClosed_0 rfl rfl rfl ?_
  refine kx_if_lt 4 F 27 dX6_isClosed_1 (by decide) rfl (by omega) (fun h_1 => ?_) (fun h_1 => ?_)
  · refine kx_iconst 28 F dX6_isClosed_27 rfl ?_
    exact kx_zret F hQ (by omega) ⟨rfl, (by omega)⟩ dX6_isClosed_28
  · refine kx_iload_n 5 F 1 dX6_isClosed_4 rfl rfl rfl ?_
    refine kx_aload_n 6 F 0 dX6_isClosed_5 rfl rfl rfl ?_
    refine kx_getr 9 F fl_X6_27 hk_c0 rfl rfl (j := 4) rfl dX6_isClosed_6 (v := (M c0 4)) rfl rfl ?_
    have hk_2 : kd (M c0 4) = 40 := Inv.r hI_M hk_c0 rfl 4 rfl rfl
    refine kx_alen 10 F hk_2 rfl rfl (z := 576) (by decide) dX6_isClosed_9 rfl ?_
    refine kx_icmp_ge 13 F 27 dX6_isClosed_10 (by decide) rfl (by omega) (by decide) (fun h_3 => ?_) (fun h_3 => ?_)
    · refine kx_iconst 28 F dX6_isClosed_27 rfl ?_
      exact kx_zret F hQ (by omega) ⟨rfl, (by omega)⟩ dX6_isClosed_28
    · refine kx_aload_n 14 F 0 dX6_isClosed_13 rfl rfl rfl ?_
      refine kx_getr 17 F fl_X6_27 hk_c0 rfl rfl (j := 4) rfl dX6_isClosed_14 (v := (M c0 4)) rfl rfl ?_
      refine kx_iload_n 18 F 1 dX6_isClosed_17 rfl rfl rfl ?_
      refine kx_iald 19 F hk_2 rfl rfl (by omega) (by decide) dX6_isClosed_18 (v := (M (M c0 4) a1)) rfl rfl ?_
      have h_4 := Inv.g hI_M hk_2 rfl a1 (a := 0) (b := 2) rfl rfl
      refine kx_iconst 20 F dX6_isClosed_19 rfl ?_
      refine kx_icmp_ne 23 F 27 dX6_isClosed_20 (by decide) rfl (by omega) (by decide) (fun h_5 => ?_) (fun h_5 => ?_)
      · refine kx_iconst 28 F dX6_isClosed_27 rfl ?_
        exact kx_zret F hQ (by omega) ⟨rfl, (by omega)⟩ dX6_isClosed_28
      · refine kx_iconst 24 F dX6_isClosed_23 rfl ?_
        refine kx_goto 28 F dX6_isClosed_24 (by decide) ?_
        exact kx_zret F hQ (by omega) ⟨rfl, (by omega)⟩ dX6_isClosed_28
abbrev f_c_X6_offerC : List (Nat × Int) := [(36, 0), (37, -1), (38, -1), (39, -1), (40, -1)]
set_option maxHeartbeats 4000000 in
set_option maxRecDepth 100000 in
theorem c_X6_offerC (G : KG) (l : Launch) (M : Mem) (c0 : Int) (a1 : Int) (a2 : Int) (a3 : Int) (hI_M : Inv false M) (hk_c0 : kd c0 = 36) (hpre : -2147483648 ≤ a1 ∧ a1 ≤ 2147483647 ∧ -2147483648 ≤ a2 ∧ a2 ≤ 2147483647 ∧ -2147483648 ≤ a3 ∧ a3 ≤ 2147483647 ∧ 0 ≤ a2 ∧ a2 ≤ 1000000000) (hX_M : XX M) : KC false G l yX6_offer cX6_offer 4 none (1, 23) [vR G c0, vI a1, vI a2, vI a3] M (fun A => kQv false G A (fun (N : Mem) => Inv false N ∧ Fr f_c_X6_offerC M N ∧ XX N)) := by
  refine kx_met (lo := [some (vR G c0), some (vI a1), some (vI a2), some (vI a3)]) (by decide) (Nat.le_of_ble_eq_true rfl) rfl ?_
  intro X F hQ
  have hF_M : Fr f_c_X6_offerC M M := Fr.rf _ _
  refine kx_iload_n 1 F 1 dX6_offer_0 rfl rfl rfl ?_
  refine kx_if_lt 4 F 23 dX6_offer_1 (by decide) rfl (by omega) (fun h_1 => ?_) (fun h_1 => ?_)
  · exact kx_vret F hQ ⟨hI_M, hF_M, hX_M⟩ dX6_offer_23
  · refine kx_iload_n 5 F 1 dX6_offer_4 rfl rfl rfl ?_
    refine kx_aload_n 6 F 0 dX6_offer_5 rfl rfl rfl ?_
    refine kx_getr 9 F fl_X6_27 hk_c0 rfl rfl (j := 4) rfl dX6_offer_6 (v := (M c0 4)) rfl rfl ?_
    have hk_2 : kd (M c0 4) = 40 := Inv.r hI_M hk_c0 rfl 4 rfl rfl
    refine kx_alen 10 F hk_2 rfl rfl (z := 576) (by decide) dX6_offer_9 rfl ?_
    refine kx_icmp_ge 13 F 23 dX6_offer_10 (by decide) rfl (by omega) (by decide) (fun h_3 => ?_) (fun h_3 => ?_)
    · exact kx_vret F hQ ⟨hI_M, hF_M, hX_M⟩ dX6_offer_23
    · refine kx_aload_n 14 F 0 dX6_offer_13 rfl rfl rfl ?_
      refine kx_getr 17 F fl_X6_27 hk_c0 rfl rfl (j := 4) rfl dX6_offer_14 (v := (M c0 4)) rfl rfl ?_
      refine kx_iload_n 18 F 1 dX6_offer_17 rfl rfl rfl ?_
      refine kx_iald 19 F hk_2 rfl rfl (by omega) (by decide) dX6_offer_18 (v := (M (M c0 4) a1)) rfl rfl ?_
      have h_4 := Inv.g hI_M hk_2 rfl a1 (a := 0) (b := 2) rfl rfl
      refine kx_iconst 20 F dX6_offer_19 rfl ?_
      refine kx_icmp_ne 23 F 24 dX6_offer_20 (by decide) rfl (by omega) (by decide) (fun h_5 => ?_) (fun h_5 => ?_)
      · refine kx_aload_n 25 F 0 dX6_offer_24 rfl rfl rfl ?_
        refine kx_getr 28 F fl_X6_27 hk_c0 rfl rfl (j := 4) rfl dX6_offer_25 (v := (M c0 4)) rfl rfl ?_
        refine kx_iload_n 29 F 1 dX6_offer_28 rfl rfl rfl ?_
        refine kx_iald 30 F hk_2 rfl rfl (by omega) (by decide) dX6_offer_29 (v := (M (M c0 4) a1)) rfl rfl ?_
        refine kx_if_ne 33 F 63 dX6_offer_30 (by decide) rfl (by omega) (fun h_6 => ?_) (fun h_6 => ?_)
        · refine kx_iload_n 64 F 2 dX6_offer_63 rfl rfl rfl ?_
          refine kx_iload_n 65 F 3 dX6_offer_64 rfl rfl rfl ?_
          refine kx_aload_n 66 F 0 dX6_offer_65 rfl rfl rfl ?_
          refine kx_getr 69 F fl_X6_21 hk_c0 rfl rfl (j := 2) rfl dX6_offer_66 (v := (M c0 2)) rfl rfl ?_
          have hk_7 : kd (M c0 2) = 38 := Inv.r hI_M hk_c0 rfl 2 rfl rfl
          refine kx_iload_n 70 F 1 dX6_offer_69 rfl rfl rfl ?_
          refine kx_iald 71 F hk_7 rfl rfl (by omega) (by decide) dX6_offer_70 (v := (M (M c0 2) a1)) rfl rfl ?_
          have h_8 := Inv.g hI_M hk_7 rfl a1 (a := 0) (b := 1000000000) rfl rfl
          refine kx_aload_n 72 F 0 dX6_offer_71 rfl rfl rfl ?_
          refine kx_getr 75 F fl_X6_24 hk_c0 rfl rfl (j := 3) rfl dX6_offer_72 (v := (M c0 3)) rfl rfl ?_
          have hk_9 : kd (M c0 3) = 39 := Inv.r hI_M hk_c0 rfl 3 rfl rfl
          refine kx_iload_n 76 F 1 dX6_offer_75 rfl rfl rfl ?_
          refine kx_iald 77 F hk_9 rfl rfl (by omega) (by decide) dX6_offer_76 (v := (M (M c0 3) a1)) rfl rfl ?_
          have h_10 := Inv.g hI_M hk_9 rfl a1 (a := (-2147483648)) (b := 2147483647) rfl rfl
          refine kx_Si 80 F (As := [vI a2, vI a3, vI (M (M c0 2) a1), vI (M (M c0 3) a1)]) (st := []) sd_X6_34 (c_X6_isBefore G l M a2 a3 (M (M c0 2) a1) (M (M c0 3) a1) hI_M (by omega)) ⟨by decide, by decide⟩ rfl rfl (Nat.le_of_ble_eq_true rfl) dX6_offer_77 rfl ?_
          intro r_11 N_12 q_13
          obtain ⟨rfl, q_13c⟩ := q_13
          refine kx_if_ne 83 F 84 dX6_offer_80 (by decide) rfl (by omega) (fun h_14 => ?_) (fun h_14 => ?_)
          · refine kx_aload_n 85 F 0 dX6_offer_84 rfl rfl rfl ?_
            refine kx_getr 88 F fl_X6_21 hk_c0 rfl rfl (j := 2) rfl dX6_offer_85 (v := (M c0 2)) rfl rfl ?_
            refine kx_iload_n 89 F 1 dX6_offer_88 rfl rfl rfl ?_
            refine kx_iload_n 90 F 2 dX6_offer_89 rfl rfl rfl ?_
            refine kx_iast 91 F hk_7 rfl rfl (by omega) (by decide) dX6_offer_90 rfl ?_
            intro N_15 hM_N_15
            have hI_N_15 : Inv false N_15 := Inv.u hI_M hM_N_15 hk_7 (a := 0) (b := 1000000000) rfl rfl rfl (by omega)
            have hF_N_15 : Fr f_c_X6_offerC M N_15 := Fr.u hF_M hM_N_15 hk_7 rfl
            have hX_N_15 : XX N_15 := XX.st hX_M hI_M hM_N_15 hk_7 rfl
            refine kx_aload_n 92 F 0 dX6_offer_91 rfl rfl rfl ?_
            refine kx_getr 95 F fl_X6_24 hk_c0 rfl rfl (j := 3) rfl dX6_offer_92 (v := (M c0 3)) (by rw [hM_N_15, mu_k hk_c0 hk_7 rfl]) rfl ?_
            refine kx_iload_n 96 F 1 dX6_offer_95 rfl rfl rfl ?_
            refine kx_iload_n 97 F 3 dX6_offer_96 rfl rfl rfl ?_
            refine kx_iast 98 F hk_9 rfl rfl (by omega) (by decide) dX6_offer_97 rfl ?_
            intro N_16 hM_N_16
            have hI_N_16 : Inv false N_16 := Inv.u hI_N_15 hM_N_16 hk_9 (a := (-2147483648)) (b := 2147483647) rfl rfl rfl (by omega)
            have hF_N_16 : Fr f_c_X6_offerC M N_16 := Fr.u hF_N_15 hM_N_16 hk_9 rfl
            have hX_N_16 : XX N_16 := XX.st hX_N_15 hI_N_15 hM_N_16 hk_9 rfl
            exact kx_vret F hQ ⟨hI_N_16, hF_N_16, hX_N_16⟩ dX6_offer_98
          · exact kx_vret F hQ ⟨hI_M, hF_M, hX_M⟩ dX6_offer_83
        · have hk_17 : kd (M c0 1) = 37 := Inv.r hI_M hk_c0 rfl 1 rfl rfl
          have h_18 := Inv.g hI_M hk_c0 rfl 0 (a := 0) (b := 576) rfl rfl
          have h_19 : M c0 0 < 576 := ShOK.lt (hX_M.2.2.2 c0 hk_c0) (by omega) (fun i => by have := Inv.g hI_M hk_17 rfl i (a := 0) (b := 575) rfl rfl; omega) (m := a1) (by omega) (by omega)
          refine kx_aload_n 34 F 0 dX6_offer_33 rfl rfl rfl ?_
          refine kx_getr 37 F fl_X6_27 hk_c0 rfl rfl (j := 4) rfl dX6_offer_34 (v := (M c0 4)) rfl rfl ?_
          refine kx_iload_n 38 F 1 dX6_offer_37 rfl rfl rfl ?_
          refine kx_iconst 39 F dX6_offer_38 rfl ?_
          refine kx_iast 40 F hk_2 rfl rfl (by omega) (by decide) dX6_offer_39 rfl ?_
          intro N_20 hM_N_20
          have hI_N_20 : Inv false N_20 := Inv.u hI_M hM_N_20 hk_2 (a := 0) (b := 2) rfl rfl rfl (by omega)
          have hF_N_20 : Fr f_c_X6_offerC M N_20 := Fr.u hF_M hM_N_20 hk_2 rfl
          refine kx_aload_n 41 F 0 dX6_offer_40 rfl rfl rfl ?_
          refine kx_getr 44 F fl_X6_15 hk_c0 rfl rfl (j := 1) rfl dX6_offer_41 (v := (M c0 1)) (by rw [hM_N_20, mu_k hk_c0 hk_2 rfl]) rfl ?_
          refine kx_aload_n 45 F 0 dX6_offer_44 rfl rfl rfl ?_
          refine kx_geti 48 F fl_X6_30 hk_c0 rfl rfl (j := 0) rfl dX6_offer_45 (v := (M c0 0)) (by rw [hM_N_20, mu_k hk_c0 hk_2 rfl]) rfl ?_
          refine kx_iload_n 49 F 1 dX6_offer_48 rfl rfl rfl ?_
          refine kx_iast 50 F hk_17 rfl rfl (by omega) (by decide) dX6_offer_49 rfl ?_
          intro N_21 hM_N_21
          have hI_N_21 : Inv false N_21 := Inv.u hI_N_20 hM_N_21 hk_17 (a := 0) (b := 575) rfl rfl rfl (by omega)
          have hF_N_21 : Fr f_c_X6_offerC M N_21 := Fr.u hF_N_20 hM_N_21 hk_17 rfl
          refine kx_aload_n 51 F 0 dX6_offer_50 rfl rfl rfl ?_
          refine kx_dup 52 F dX6_offer_51 rfl rfl ?_
          refine kx_geti 55 F fl_X6_30 hk_c0 rfl rfl (j := 0) rfl dX6_offer_52 (v := (M c0 0)) (by rw [hM_N_21, mu_k hk_c0 hk_17 rfl, hM_N_20, mu_k hk_c0 hk_2 rfl]) rfl ?_
          refine kx_iconst 56 F dX6_offer_55 rfl ?_
          refine kx_iadd 57 F (v := (M c0 0) + 1) dX6_offer_56 rfl rfl ?_
          refine kx_puti 60 F fw_X6_30 rfl hk_c0 rfl rfl (j := 0) rfl dX6_offer_57 rfl ?_
          intro N_22 hM_N_22
          have hI_N_22 : Inv false N_22 := Inv.u hI_N_21 hM_N_22 hk_c0 (a := 0) (b := 576) rfl rfl rfl (by omega)
          have hF_N_22 : Fr f_c_X6_offerC M N_22 := Fr.u hF_N_21 hM_N_22 hk_c0 rfl
          have hs_N_22 : ShOK 576 N_22 c0 := ShOK.ins (hX_M.2.2.2 c0 hk_c0) (m := a1) (by omega) (by omega) (by rw [hM_N_22, mu_s]) (by rw [hM_N_22, mu_i (by omega), hM_N_21, mu_k hk_c0 hk_17 rfl, hM_N_20, mu_k hk_c0 hk_2 rfl]) (by rw [hM_N_22, mu_i (by omega), hM_N_21, mu_k hk_c0 hk_17 rfl, hM_N_20, mu_k hk_c0 hk_2 rfl]) (fun i => by rw [hM_N_22, mu_k hk_17 hk_c0 rfl, hM_N_21, mu_at, hM_N_20, mu_k hk_17 hk_2 rfl]) (fun i => by rw [hM_N_22, mu_k hk_2 hk_c0 rfl, hM_N_21, mu_k hk_2 hk_17 rfl, hM_N_20, mu_at])
          have hX_N_22 : XX N_22 := XX.shC hX_M hI_M hF_N_22 rfl hk_c0 hs_N_22
          refine kx_goto 84 F dX6_offer_60 (by decide) ?_
          refine kx_aload_n 85 F 0 dX6_offer_84 rfl rfl rfl ?_
          refine kx_getr 88 F fl_X6_21 hk_c0 rfl rfl (j := 2) rfl dX6_offer_85 (v := (M c0 2)) (by rw [hM_N_22, mu_i (by omega), hM_N_21, mu_k hk_c0 hk_17 rfl, hM_N_20, mu_k hk_c0 hk_2 rfl]) rfl ?_
          have hk_23 : kd (M c0 2) = 38 := Inv.r hI_M hk_c0 rfl 2 rfl rfl
          refine kx_iload_n 89 F 1 dX6_offer_88 rfl rfl rfl ?_
          refine kx_iload_n 90 F 2 dX6_offer_89 rfl rfl rfl ?_
          refine kx_iast 91 F hk_23 rfl rfl (by omega) (by decide) dX6_offer_90 rfl ?_
          intro N_24 hM_N_24
          have hI_N_24 : Inv false N_24 := Inv.u hI_N_22 hM_N_24 hk_23 (a := 0) (b := 1000000000) rfl rfl rfl (by omega)
          have hF_N_24 : Fr f_c_X6_offerC M N_24 := Fr.u hF_N_22 hM_N_24 hk_23 rfl
          have hX_N_24 : XX N_24 := XX.st hX_N_22 hI_N_22 hM_N_24 hk_23 rfl
          refine kx_aload_n 92 F 0 dX6_offer_91 rfl rfl rfl ?_
          refine kx_getr 95 F fl_X6_24 hk_c0 rfl rfl (j := 3) rfl dX6_offer_92 (v := (M c0 3)) (by rw [hM_N_24, mu_k hk_c0 hk_23 rfl, hM_N_22, mu_i (by omega), hM_N_21, mu_k hk_c0 hk_17 rfl, hM_N_20, mu_k hk_c0 hk_2 rfl]) rfl ?_
          have hk_25 : kd (M c0 3) = 39 := Inv.r hI_M hk_c0 rfl 3 rfl rfl
          refine kx_iload_n 96 F 1 dX6_offer_95 rfl rfl rfl ?_
          refine kx_iload_n 97 F 3 dX6_offer_96 rfl rfl rfl ?_
          refine kx_iast 98 F hk_25 rfl rfl (by omega) (by decide) dX6_offer_97 rfl ?_
          intro N_26 hM_N_26
          have hI_N_26 : Inv false N_26 := Inv.u hI_N_24 hM_N_26 hk_25 (a := (-2147483648)) (b := 2147483647) rfl rfl rfl (by omega)
          have hF_N_26 : Fr f_c_X6_offerC M N_26 := Fr.u hF_N_24 hM_N_26 hk_25 rfl
          have hX_N_26 : XX N_26 := XX.st hX_N_24 hI_N_24 hM_N_26 hk_25 rfl
          exact kx_vret F hQ ⟨hI_N_26, hF_N_26, hX_N_26⟩ dX6_offer_98
      · exact kx_vret F hQ ⟨hI_M, hF_M, hX_M⟩ dX6_offer_23
abbrev f_c_X6_closesC : List (Nat × Int) := [(40, -1)]
set_option maxHeartbeats 4000000 in
set_option maxRecDepth 100000 in
theorem c_X6_closesC (G : KG) (l : Launch) (M : Mem) (c0 : Int) (a1 : Int) (a2 : Int) (hI_M : Inv false M) (hk_c0 : kd c0 = 36) (hpre : -2147483648 ≤ a1 ∧ a1 ≤ 2147483647 ∧ -2147483648 ≤ a2 ∧ a2 ≤ 2147483647 ∧ 0 ≤ a1 ∧ a1 ≤ 575) (hX_M : XX M) : KC false G l yX6_closes cX6_closes 3 (some .boolean) (0, 0) [vR G c0, vI a1, vI a2] M (fun A => kQi false G A (fun (r : Int) (N : Mem) => Inv false N ∧ Fr f_c_X6_closesC M N ∧ (0 ≤ r ∧ r ≤ 1) ∧ XX N)) := by
  refine kx_met (lo := [some (vR G c0), some (vI a1), some (vI a2)]) (by decide) (Nat.le_of_ble_eq_true rfl) rfl ?_
  intro X F hQ
  have hF_M : Fr f_c_X6_closesC M M := Fr.rf _ _
  refine kx_aload_n 1 F 0 dX6_closes_0 rfl rfl rfl ?_
  refine kx_getr 4 F fl_X6_27 hk_c0 rfl rfl (j := 4) rfl dX6_closes_1 (v := (M c0 4)) rfl rfl ?_
  have hk_1 : kd (M c0 4) = 40 := Inv.r hI_M hk_c0 rfl 4 rfl rfl
  refine kx_iload_n 5 F 1 dX6_closes_4 rfl rfl rfl ?_
  refine kx_iald 6 F hk_1 rfl rfl (by omega) (by decide) dX6_closes_5 (v := (M (M c0 4) a1)) rfl rfl ?_
  have h_2 := Inv.g hI_M hk_1 rfl a1 (a := 0) (b := 2) rfl rfl
  refine kx_iconst 7 F dX6_closes_6 rfl ?_
  refine kx_icmp_ne 10 F 20 dX6_closes_7 (by decide) rfl (by omega) (by decide) (fun h_3 => ?_) (fun h_3 => ?_)
  · refine kx_iconst 21 F dX6_closes_20 rfl ?_
    exact kx_zret F hQ (by omega) ⟨hI_M, hF_M, (by omega), hX_M⟩ dX6_closes_21
  · refine kx_aload_n 11 F 0 dX6_closes_10 rfl rfl rfl ?_
    refine kx_getr 14 F fl_X6_21 hk_c0 rfl rfl (j := 2) rfl dX6_closes_11 (v := (M c0 2)) rfl rfl ?_
    have hk_4 : kd (M c0 2) = 38 := Inv.r hI_M hk_c0 rfl 2 rfl rfl
    refine kx_iload_n 15 F 1 dX6_closes_14 rfl rfl rfl ?_
    refine kx_iald 16 F hk_4 rfl rfl (by omega) (by decide) dX6_closes_15 (v := (M (M c0 2) a1)) rfl rfl ?_
    have h_5 := Inv.g hI_M hk_4 rfl a1 (a := 0) (b := 1000000000) rfl rfl
    refine kx_iload_n 17 F 2 dX6_closes_16 rfl rfl rfl ?_
    refine kx_icmp_eq 20 F 22 dX6_closes_17 (by decide) rfl (by omega) (by omega) (fun h_6 => ?_) (fun h_6 => ?_)
    · refine kx_aload_n 23 F 0 dX6_closes_22 rfl rfl rfl ?_
      refine kx_getr 26 F fl_X6_27 hk_c0 rfl rfl (j := 4) rfl dX6_closes_23 (v := (M c0 4)) rfl rfl ?_
      refine kx_iload_n 27 F 1 dX6_closes_26 rfl rfl rfl ?_
      refine kx_iconst 28 F dX6_closes_27 rfl ?_
      refine kx_iast 29 F hk_1 rfl rfl (by omega) (by decide) dX6_closes_28 rfl ?_
      intro N_7 hM_N_7
      have hI_N_7 : Inv false N_7 := Inv.u hI_M hM_N_7 hk_1 (a := 0) (b := 2) rfl rfl rfl (by omega)
      have hF_N_7 : Fr f_c_X6_closesC M N_7 := Fr.u hF_M hM_N_7 hk_1 rfl
      have hk_8 : kd (M c0 1) = 37 := Inv.r hI_M hk_c0 rfl 1 rfl rfl
      have hs_N_7 : ShOK 576 N_7 c0 := ShOK.mood (hX_M.2.2.2 c0 hk_c0) (m := a1) (v := 2) (by omega) (by decide) (by rw [hM_N_7, mu_k hk_c0 hk_1 rfl]) (by rw [hM_N_7, mu_k hk_c0 hk_1 rfl]) (by rw [hM_N_7, mu_k hk_c0 hk_1 rfl]) (fun i => by rw [hM_N_7, mu_k hk_8 hk_1 rfl]) (fun i => by rw [hM_N_7, mu_at])
      have hX_N_7 : XX N_7 := XX.shC hX_M hI_M hF_N_7 rfl hk_c0 hs_N_7
      refine kx_iconst 30 F dX6_closes_29 rfl ?_
      exact kx_zret F hQ (by omega) ⟨hI_N_7, hF_N_7, (by omega), hX_N_7⟩ dX6_closes_30
    · refine kx_iconst 21 F dX6_closes_20 rfl ?_
      exact kx_zret F hQ (by omega) ⟨hI_M, hF_M, (by omega), hX_M⟩ dX6_closes_21
abbrev f_c_X6_clearC : List (Nat × Int) := [(36, 0), (40, -1)]
set_option maxHeartbeats 4000000 in
set_option maxRecDepth 100000 in
theorem c_X6_clearC (G : KG) (l : Launch) (M : Mem) (c0 : Int) (hI_M : Inv false M) (hk_c0 : kd c0 = 36) (hX_M : XX M) : KC false G l yX6_clear cX6_clear 2 none (0, 0) [vR G c0] M (fun A => kQv false G A (fun (N : Mem) => Inv false N ∧ Fr f_c_X6_clearC M N ∧ XX N)) := by
  refine kx_met (lo := [some (vR G c0), none]) (by decide) (Nat.le_of_ble_eq_true rfl) rfl ?_
  intro X F hQ
  have hF_M : Fr f_c_X6_clearC M M := Fr.rf _ _
  refine kx_iconst 1 F dX6_clear_0 rfl ?_
  refine kx_istore_n 2 F 1 (lo' := [some (vR G c0), some (vI 0)]) dX6_clear_1 rfl (by decide) rfl rfl rfl ?_
  have L_66 : ∀ (n_67 : Nat) (x1_64 : Int) (N_65 : Mem), Inv false N_65 → Fr f_c_X6_clearC M N_65 → ShCl 576 M N_65 c0 x1_64 → 0 ≤ x1_64 ∧ x1_64 ≤ 576 → (576 - (x1_64)).toNat = n_67 → KJ false G X N_65 2 [some (vR G c0), some (vI x1_64)] [] := by
    intro n_67
    refine Nat.strongRecOn n_67 ?_
    intro n_67 ih_68 x1_64 N_65 hI_N_65 hF_N_65 hp_71 h_69 hm_70
    refine kx_iload_n 3 F 1 dX6_clear_2 rfl rfl rfl ?_
    refine kx_aload_n 4 F 0 dX6_clear_3 rfl rfl rfl ?_
    refine kx_geti 7 F fl_X6_30 hk_c0 rfl rfl (j := 0) rfl dX6_clear_4 (v := (N_65 c0 0)) rfl rfl ?_
    have h_72 := Inv.g hI_N_65 hk_c0 rfl 0 (a := 0) (b := 576) rfl rfl
    refine kx_icmp_ge 10 F 28 dX6_clear_7 (by decide) rfl (by omega) (by omega) (fun h_73 => ?_) (fun h_73 => ?_)
    · refine kx_aload_n 29 F 0 dX6_clear_28 rfl rfl rfl ?_
      refine kx_iconst 30 F dX6_clear_29 rfl ?_
      refine kx_puti 33 F fw_X6_30 rfl hk_c0 rfl rfl (j := 0) rfl dX6_clear_30 rfl ?_
      intro N_74 hM_N_74
      have hI_N_74 : Inv false N_74 := Inv.u hI_N_65 hM_N_74 hk_c0 (a := 0) (b := 576) rfl rfl rfl (by omega)
      have hF_N_74 : Fr f_c_X6_clearC M N_74 := Fr.u hF_N_65 hM_N_74 hk_c0 rfl
      have hk_75 : kd (M c0 1) = 37 := Inv.r hI_M hk_c0 rfl 1 rfl rfl
      have hk_76 : kd (M c0 4) = 40 := Inv.r hI_M hk_c0 rfl 4 rfl rfl
      have h_77 := hp_71.1
      have hs_N_74 : ShOK 576 N_74 c0 := ShCl.done hp_71 (by omega) (by rw [hM_N_74, mu_s]) (by rw [hM_N_74, mu_i (by omega)]) (by rw [hM_N_74, mu_i (by omega)]) (fun i => by rw [hM_N_74, mu_k hk_76 hk_c0 rfl])
      have hX_N_74 : XX N_74 := XX.shC hX_M hI_M hF_N_74 rfl hk_c0 hs_N_74
      exact kx_vret F hQ ⟨hI_N_74, hF_N_74, hX_N_74⟩ dX6_clear_33
    · refine kx_aload_n 11 F 0 dX6_clear_10 rfl rfl rfl ?_
      refine kx_getr 14 F fl_X6_27 hk_c0 rfl rfl (j := 4) rfl dX6_clear_11 (v := (M c0 4)) (by rw [Fr.e hF_N_65 hk_c0 _ rfl]) rfl ?_
      have hk_78 : kd (M c0 4) = 40 := Inv.r hI_M hk_c0 rfl 4 rfl rfl
      refine kx_aload_n 15 F 0 dX6_clear_14 rfl rfl rfl ?_
      refine kx_getr 18 F fl_X6_15 hk_c0 rfl rfl (j := 1) rfl dX6_clear_15 (v := (M c0 1)) (by rw [Fr.e hF_N_65 hk_c0 _ rfl]) rfl ?_
      have hk_79 : kd (M c0 1) = 37 := Inv.r hI_M hk_c0 rfl 1 rfl rfl
      refine kx_iload_n 19 F 1 dX6_clear_18 rfl rfl rfl ?_
      refine kx_iald 20 F hk_79 rfl rfl (by omega) (by decide) dX6_clear_19 (v := (M (M c0 1) x1_64)) (by rw [Fr.e hF_N_65 hk_79 _ rfl]) rfl ?_
      have h_80 := Inv.g hI_M hk_79 rfl x1_64 (a := 0) (b := 575) rfl rfl
      refine kx_iconst 21 F dX6_clear_20 rfl ?_
      refine kx_iast 22 F hk_78 rfl rfl (by omega) (by decide) dX6_clear_21 rfl ?_
      intro N_81 hM_N_81
      have hI_N_81 : Inv false N_81 := Inv.u hI_N_65 hM_N_81 hk_78 (a := 0) (b := 2) rfl rfl rfl (by omega)
      have hF_N_81 : Fr f_c_X6_clearC M N_81 := Fr.u hF_N_65 hM_N_81 hk_78 rfl
      refine kx_iinc 25 F 1 (v := x1_64 + 1) (lo' := [some (vR G c0), some (vI (x1_64 + 1))]) dX6_clear_22 rfl (by omega) (by decide) rfl rfl rfl ?_
      refine kx_goto 2 F dX6_clear_25 (by decide) ?_
      exact ih_68 _ (by omega) (x1_64 + 1) N_81 hI_N_81 hF_N_81 (ShCl.step hp_71 (by rw [hM_N_81, mu_k hk_c0 hk_78 rfl]) (by rw [hM_N_81, mu_k hk_c0 hk_78 rfl]) (by rw [hM_N_81, mu_k hk_c0 hk_78 rfl]) (fun i => by rw [hM_N_81, mu_k hk_79 hk_78 rfl]) (fun i => by rw [hM_N_81, mu_at])) (by omega) rfl
  exact L_66 _ 0 M hI_M hF_M (ShCl.start (hX_M.2.2.2 c0 hk_c0)) (by omega) rfl
set_option maxRecDepth 100000 in
theorem dGR_13_c_259 : (decode cX5_clear 0 = .ok (.aload_n 0, 1)) ∧ (decode cX5_clear 1 = .ok (.iconst 0, 1)) ∧ (decode cX5_clear 2 = .ok (.putfield 28, 3)) ∧ (decode cX5_clear 5 = .ok (.aload_n 0, 1)) ∧ (decode cX5_clear 6 = .ok (.iconst 0, 1)) ∧ (decode cX5_clear 7 = .ok (.putfield 32, 3)) ∧ (decode cX5_clear 10 = .ok (.aload_n 0, 1)) ∧ (decode cX5_clear 11 = .ok (.iconst 0, 1)) ∧ (decode cX5_clear 12 = .ok (.putfield 35, 3)) ∧ (decode cX5_clear 15 = .ok (.aload_n 0, 1)) ∧ (decode cX5_clear 16 = .ok (.iconst 0, 1)) ∧ (decode cX5_clear 17 = .ok (.putfield 38, 3)) := by decide +kernel
theorem dX5_clear_0 : decode cX5_clear 0 = .ok (.aload_n 0, 1) := dGR_13_c_259.1
theorem dX5_clear_1 : decode cX5_clear 1 = .ok (.iconst 0, 1) := dGR_13_c_259.2.1
theorem dX5_clear_2 : decode cX5_clear 2 = .ok (.putfield 28, 3) := dGR_13_c_259.2.2.1
theorem dX5_clear_5 : decode cX5_clear 5 = .ok (.aload_n 0, 1) := dGR_13_c_259.2.2.2.1
theorem dX5_clear_6 : decode cX5_clear 6 = .ok (.iconst 0, 1) := dGR_13_c_259.2.2.2.2.1
theorem dX5_clear_7 : decode cX5_clear 7 = .ok (.putfield 32, 3) := dGR_13_c_259.2.2.2.2.2.1
theorem dX5_clear_10 : decode cX5_clear 10 = .ok (.aload_n 0, 1) := dGR_13_c_259.2.2.2.2.2.2.1
theorem dX5_clear_11 : decode cX5_clear 11 = .ok (.iconst 0, 1) := dGR_13_c_259.2.2.2.2.2.2.2.1
theorem dX5_clear_12 : decode cX5_clear 12 = .ok (.putfield 35, 3) := dGR_13_c_259.2.2.2.2.2.2.2.2.1
theorem dX5_clear_15 : decode cX5_clear 15 = .ok (.aload_n 0, 1) := dGR_13_c_259.2.2.2.2.2.2.2.2.2.1
theorem dX5_clear_16 : decode cX5_clear 16 = .ok (.iconst 0, 1) := dGR_13_c_259.2.2.2.2.2.2.2.2.2.2.1
theorem dX5_clear_17 : decode cX5_clear 17 = .ok (.putfield 38, 3) := dGR_13_c_259.2.2.2.2.2.2.2.2.2.2.2
set_option maxRecDepth 100000 in
theorem dGR_13_c_260 : (decode cX5_clear 20 = .ok (.aload_n 0, 1)) ∧ (decode cX5_clear 21 = .ok (.getfield 24, 3)) ∧ (decode cX5_clear 24 = .ok (.iconst (-1), 1)) ∧ (decode cX5_clear 25 = .ok (.putfield 41, 3)) ∧ (decode cX5_clear 28 = .ok (.return_, 1)) := by decide +kernel
theorem dX5_clear_20 : decode cX5_clear 20 = .ok (.aload_n 0, 1) := dGR_13_c_260.1
theorem dX5_clear_21 : decode cX5_clear 21 = .ok (.getfield 24, 3) := dGR_13_c_260.2.1
theorem dX5_clear_24 : decode cX5_clear 24 = .ok (.iconst (-1), 1) := dGR_13_c_260.2.2.1
theorem dX5_clear_25 : decode cX5_clear 25 = .ok (.putfield 41, 3) := dGR_13_c_260.2.2.2.1
theorem dX5_clear_28 : decode cX5_clear 28 = .ok (.return_, 1) := dGR_13_c_260.2.2.2.2
set_option maxRecDepth 100000 in
theorem dGR_13_c_261 : (decode cX5_become 0 = .ok (.aload_n 0, 1)) ∧ (decode cX5_become 1 = .ok (.aload_n 1, 1)) ∧ (decode cX5_become 2 = .ok (.getfield 28, 3)) ∧ (decode cX5_become 5 = .ok (.putfield 28, 3)) ∧ (decode cX5_become 8 = .ok (.aload_n 0, 1)) ∧ (decode cX5_become 9 = .ok (.aload_n 1, 1)) ∧ (decode cX5_become 10 = .ok (.getfield 32, 3)) ∧ (decode cX5_become 13 = .ok (.putfield 32, 3)) ∧ (decode cX5_become 16 = .ok (.aload_n 0, 1)) ∧ (decode cX5_become 17 = .ok (.aload_n 1, 1)) ∧ (decode cX5_become 18 = .ok (.getfield 35, 3)) ∧ (decode cX5_become 21 = .ok (.putfield 35, 3)) := by decide +kernel
theorem dX5_become_0 : decode cX5_become 0 = .ok (.aload_n 0, 1) := dGR_13_c_261.1
theorem dX5_become_1 : decode cX5_become 1 = .ok (.aload_n 1, 1) := dGR_13_c_261.2.1
theorem dX5_become_2 : decode cX5_become 2 = .ok (.getfield 28, 3) := dGR_13_c_261.2.2.1
theorem dX5_become_5 : decode cX5_become 5 = .ok (.putfield 28, 3) := dGR_13_c_261.2.2.2.1
theorem dX5_become_8 : decode cX5_become 8 = .ok (.aload_n 0, 1) := dGR_13_c_261.2.2.2.2.1
theorem dX5_become_9 : decode cX5_become 9 = .ok (.aload_n 1, 1) := dGR_13_c_261.2.2.2.2.2.1
theorem dX5_become_10 : decode cX5_become 10 = .ok (.getfield 32, 3) := dGR_13_c_261.2.2.2.2.2.2.1
theorem dX5_become_13 : decode cX5_become 13 = .ok (.putfield 32, 3) := dGR_13_c_261.2.2.2.2.2.2.2.1
theorem dX5_become_16 : decode cX5_become 16 = .ok (.aload_n 0, 1) := dGR_13_c_261.2.2.2.2.2.2.2.2.1
theorem dX5_become_17 : decode cX5_become 17 = .ok (.aload_n 1, 1) := dGR_13_c_261.2.2.2.2.2.2.2.2.2.1
theorem dX5_become_18 : decode cX5_become 18 = .ok (.getfield 35, 3) := dGR_13_c_261.2.2.2.2.2.2.2.2.2.2.1
theorem dX5_become_21 : decode cX5_become 21 = .ok (.putfield 35, 3) := dGR_13_c_261.2.2.2.2.2.2.2.2.2.2.2
set_option maxRecDepth 100000 in
theorem dGR_13_c_262 : (decode cX5_become 24 = .ok (.aload_n 0, 1)) ∧ (decode cX5_become 25 = .ok (.aload_n 1, 1)) ∧ (decode cX5_become 26 = .ok (.getfield 38, 3)) ∧ (decode cX5_become 29 = .ok (.putfield 38, 3)) ∧ (decode cX5_become 32 = .ok (.aload_n 0, 1)) ∧ (decode cX5_become 33 = .ok (.getfield 12, 3)) ∧ (decode cX5_become 36 = .ok (.aload_n 1, 1)) ∧ (decode cX5_become 37 = .ok (.getfield 12, 3)) ∧ (decode cX5_become 40 = .ok (.invokevirtual 44, 3)) ∧ (decode cX5_become 43 = .ok (.aload_n 0, 1)) ∧ (decode cX5_become 44 = .ok (.getfield 18, 3)) ∧ (decode cX5_become 47 = .ok (.aload_n 1, 1)) := by decide +kernel
theorem dX5_become_24 : decode cX5_become 24 = .ok (.aload_n 0, 1) := dGR_13_c_262.1
theorem dX5_become_25 : decode cX5_become 25 = .ok (.aload_n 1, 1) := dGR_13_c_262.2.1
theorem dX5_become_26 : decode cX5_become 26 = .ok (.getfield 38, 3) := dGR_13_c_262.2.2.1
theorem dX5_become_29 : decode cX5_become 29 = .ok (.putfield 38, 3) := dGR_13_c_262.2.2.2.1
theorem dX5_become_32 : decode cX5_become 32 = .ok (.aload_n 0, 1) := dGR_13_c_262.2.2.2.2.1
theorem dX5_become_33 : decode cX5_become 33 = .ok (.getfield 12, 3) := dGR_13_c_262.2.2.2.2.2.1
theorem dX5_become_36 : decode cX5_become 36 = .ok (.aload_n 1, 1) := dGR_13_c_262.2.2.2.2.2.2.1
theorem dX5_become_37 : decode cX5_become 37 = .ok (.getfield 12, 3) := dGR_13_c_262.2.2.2.2.2.2.2.1
theorem dX5_become_40 : decode cX5_become 40 = .ok (.invokevirtual 44, 3) := dGR_13_c_262.2.2.2.2.2.2.2.2.1
theorem dX5_become_43 : decode cX5_become 43 = .ok (.aload_n 0, 1) := dGR_13_c_262.2.2.2.2.2.2.2.2.2.1
theorem dX5_become_44 : decode cX5_become 44 = .ok (.getfield 18, 3) := dGR_13_c_262.2.2.2.2.2.2.2.2.2.2.1
theorem dX5_become_47 : decode cX5_become 47 = .ok (.aload_n 1, 1) := dGR_13_c_262.2.2.2.2.2.2.2.2.2.2.2
set_option maxRecDepth 100000 in
theorem dGR_13_c_263 : (decode cX5_become 48 = .ok (.getfield 18, 3)) ∧ (decode cX5_become 51 = .ok (.invokevirtual 44, 3)) ∧ (decode cX5_become 54 = .ok (.aload_n 0, 1)) ∧ (decode cX5_become 55 = .ok (.getfield 24, 3)) ∧ (decode cX5_become 58 = .ok (.aload_n 1, 1)) ∧ (decode cX5_become 59 = .ok (.getfield 24, 3)) ∧ (decode cX5_become 62 = .ok (.invokevirtual 48, 3)) ∧ (decode cX5_become 65 = .ok (.return_, 1)) := by decide +kernel
theorem dX5_become_48 : decode cX5_become 48 = .ok (.getfield 18, 3) := dGR_13_c_263.1
theorem dX5_become_51 : decode cX5_become 51 = .ok (.invokevirtual 44, 3) := dGR_13_c_263.2.1
theorem dX5_become_54 : decode cX5_become 54 = .ok (.aload_n 0, 1) := dGR_13_c_263.2.2.1
theorem dX5_become_55 : decode cX5_become 55 = .ok (.getfield 24, 3) := dGR_13_c_263.2.2.2.1
theorem dX5_become_58 : decode cX5_become 58 = .ok (.aload_n 1, 1) := dGR_13_c_263.2.2.2.2.1
theorem dX5_become_59 : decode cX5_become 59 = .ok (.getfield 24, 3) := dGR_13_c_263.2.2.2.2.2.1
theorem dX5_become_62 : decode cX5_become 62 = .ok (.invokevirtual 48, 3) := dGR_13_c_263.2.2.2.2.2.2.1
theorem dX5_become_65 : decode cX5_become 65 = .ok (.return_, 1) := dGR_13_c_263.2.2.2.2.2.2.2
set_option maxRecDepth 100000 in
theorem dGR_13_c_264 : (decode cX5_addLetter 0 = .ok (.aload_n 0, 1)) ∧ (decode cX5_addLetter 1 = .ok (.dup, 1)) ∧ (decode cX5_addLetter 2 = .ok (.getfield 28, 3)) ∧ (decode cX5_addLetter 5 = .ok (.iload_n 1, 1)) ∧ (decode cX5_addLetter 6 = .ok (.ifCond .ne 7, 3)) ∧ (decode cX5_addLetter 9 = .ok (.iconst 1, 1)) ∧ (decode cX5_addLetter 10 = .ok (.goto 4, 3)) ∧ (decode cX5_addLetter 13 = .ok (.iconst 0, 1)) ∧ (decode cX5_addLetter 14 = .ok (.iadd, 1)) ∧ (decode cX5_addLetter 15 = .ok (.putfield 28, 3)) ∧ (decode cX5_addLetter 18 = .ok (.aload_n 0, 1)) ∧ (decode cX5_addLetter 19 = .ok (.dup, 1)) := by decide +kernel
theorem dX5_addLetter_0 : decode cX5_addLetter 0 = .ok (.aload_n 0, 1) := dGR_13_c_264.1
theorem dX5_addLetter_1 : decode cX5_addLetter 1 = .ok (.dup, 1) := dGR_13_c_264.2.1
theorem dX5_addLetter_2 : decode cX5_addLetter 2 = .ok (.getfield 28, 3) := dGR_13_c_264.2.2.1
theorem dX5_addLetter_5 : decode cX5_addLetter 5 = .ok (.iload_n 1, 1) := dGR_13_c_264.2.2.2.1
theorem dX5_addLetter_6 : decode cX5_addLetter 6 = .ok (.ifCond .ne 7, 3) := dGR_13_c_264.2.2.2.2.1
theorem dX5_addLetter_9 : decode cX5_addLetter 9 = .ok (.iconst 1, 1) := dGR_13_c_264.2.2.2.2.2.1
theorem dX5_addLetter_10 : decode cX5_addLetter 10 = .ok (.goto 4, 3) := dGR_13_c_264.2.2.2.2.2.2.1
theorem dX5_addLetter_13 : decode cX5_addLetter 13 = .ok (.iconst 0, 1) := dGR_13_c_264.2.2.2.2.2.2.2.1
theorem dX5_addLetter_14 : decode cX5_addLetter 14 = .ok (.iadd, 1) := dGR_13_c_264.2.2.2.2.2.2.2.2.1
theorem dX5_addLetter_15 : decode cX5_addLetter 15 = .ok (.putfield 28, 3) := dGR_13_c_264.2.2.2.2.2.2.2.2.2.1
theorem dX5_addLetter_18 : decode cX5_addLetter 18 = .ok (.aload_n 0, 1) := dGR_13_c_264.2.2.2.2.2.2.2.2.2.2.1
theorem dX5_addLetter_19 : decode cX5_addLetter 19 = .ok (.dup, 1) := dGR_13_c_264.2.2.2.2.2.2.2.2.2.2.2
set_option maxRecDepth 100000 in
theorem dGR_13_c_265 : (decode cX5_addLetter 20 = .ok (.getfield 32, 3)) ∧ (decode cX5_addLetter 23 = .ok (.iload_n 1, 1)) ∧ (decode cX5_addLetter 24 = .ok (.iconst 2, 1)) ∧ (decode cX5_addLetter 25 = .ok (.if_icmp .eq 7, 3)) ∧ (decode cX5_addLetter 28 = .ok (.iconst 1, 1)) ∧ (decode cX5_addLetter 29 = .ok (.goto 4, 3)) ∧ (decode cX5_addLetter 32 = .ok (.iconst 0, 1)) ∧ (decode cX5_addLetter 33 = .ok (.iadd, 1)) ∧ (decode cX5_addLetter 34 = .ok (.putfield 32, 3)) ∧ (decode cX5_addLetter 37 = .ok (.aload_n 0, 1)) ∧ (decode cX5_addLetter 38 = .ok (.dup, 1)) ∧ (decode cX5_addLetter 39 = .ok (.getfield 35, 3)) := by decide +kernel
theorem dX5_addLetter_20 : decode cX5_addLetter 20 = .ok (.getfield 32, 3) := dGR_13_c_265.1
theorem dX5_addLetter_23 : decode cX5_addLetter 23 = .ok (.iload_n 1, 1) := dGR_13_c_265.2.1
theorem dX5_addLetter_24 : decode cX5_addLetter 24 = .ok (.iconst 2, 1) := dGR_13_c_265.2.2.1
theorem dX5_addLetter_25 : decode cX5_addLetter 25 = .ok (.if_icmp .eq 7, 3) := dGR_13_c_265.2.2.2.1
theorem dX5_addLetter_28 : decode cX5_addLetter 28 = .ok (.iconst 1, 1) := dGR_13_c_265.2.2.2.2.1
theorem dX5_addLetter_29 : decode cX5_addLetter 29 = .ok (.goto 4, 3) := dGR_13_c_265.2.2.2.2.2.1
theorem dX5_addLetter_32 : decode cX5_addLetter 32 = .ok (.iconst 0, 1) := dGR_13_c_265.2.2.2.2.2.2.1
theorem dX5_addLetter_33 : decode cX5_addLetter 33 = .ok (.iadd, 1) := dGR_13_c_265.2.2.2.2.2.2.2.1
theorem dX5_addLetter_34 : decode cX5_addLetter 34 = .ok (.putfield 32, 3) := dGR_13_c_265.2.2.2.2.2.2.2.2.1
theorem dX5_addLetter_37 : decode cX5_addLetter 37 = .ok (.aload_n 0, 1) := dGR_13_c_265.2.2.2.2.2.2.2.2.2.1
theorem dX5_addLetter_38 : decode cX5_addLetter 38 = .ok (.dup, 1) := dGR_13_c_265.2.2.2.2.2.2.2.2.2.2.1
theorem dX5_addLetter_39 : decode cX5_addLetter 39 = .ok (.getfield 35, 3) := dGR_13_c_265.2.2.2.2.2.2.2.2.2.2.2
set_option maxRecDepth 100000 in
theorem dGR_13_c_266 : (decode cX5_addLetter 42 = .ok (.iconst 1, 1)) ∧ (decode cX5_addLetter 43 = .ok (.iadd, 1)) ∧ (decode cX5_addLetter 44 = .ok (.putfield 35, 3)) ∧ (decode cX5_addLetter 47 = .ok (.return_, 1)) := by decide +kernel
theorem dX5_addLetter_42 : decode cX5_addLetter 42 = .ok (.iconst 1, 1) := dGR_13_c_266.1
theorem dX5_addLetter_43 : decode cX5_addLetter 43 = .ok (.iadd, 1) := dGR_13_c_266.2.1
theorem dX5_addLetter_44 : decode cX5_addLetter 44 = .ok (.putfield 35, 3) := dGR_13_c_266.2.2.1
theorem dX5_addLetter_47 : decode cX5_addLetter 47 = .ok (.return_, 1) := dGR_13_c_266.2.2.2
set_option maxRecDepth 100000 in
theorem dGR_13_c_267 : (decode cX4_forgetFound 0 = .ok (.aload_n 0, 1)) ∧ (decode cX4_forgetFound 1 = .ok (.iconst 0, 1)) ∧ (decode cX4_forgetFound 2 = .ok (.putfield 58, 3)) ∧ (decode cX4_forgetFound 5 = .ok (.return_, 1)) := by decide +kernel
theorem dX4_forgetFound_0 : decode cX4_forgetFound 0 = .ok (.aload_n 0, 1) := dGR_13_c_267.1
theorem dX4_forgetFound_1 : decode cX4_forgetFound 1 = .ok (.iconst 0, 1) := dGR_13_c_267.2.1
theorem dX4_forgetFound_2 : decode cX4_forgetFound 2 = .ok (.putfield 58, 3) := dGR_13_c_267.2.2.1
theorem dX4_forgetFound_5 : decode cX4_forgetFound 5 = .ok (.return_, 1) := dGR_13_c_267.2.2.2
abbrev f_c_X4_forgetFound : List (Nat × Int) := [(41, 2)]
set_option maxHeartbeats 4000000 in
set_option maxRecDepth 100000 in
theorem c_X4_forgetFound (G : KG) (l : Launch) (M : Mem) (c0 : Int) (hI_M : Inv false M) (hk_c0 : kd c0 = 41) : KC false G l yX4_forgetFound cX4_forgetFound 1 none (0, 0) [vR G c0] M (fun A => kQv false G A (fun (N : Mem) => Inv false N ∧ Fr f_c_X4_forgetFound M N)) := by
  refine kx_met (lo := [some (vR G c0)]) (by decide) (Nat.le_of_ble_eq_true rfl) rfl ?_
  intro X F hQ
  have hF_M : Fr f_c_X4_forgetFound M M := Fr.rf _ _
  refine kx_aload_n 1 F 0 dX4_forgetFound_0 rfl rfl rfl ?_
  refine kx_iconst 2 F dX4_forgetFound_1 rfl ?_
  refine kx_puti 5 F fw_X4_58 rfl hk_c0 rfl rfl (j := 2) rfl dX4_forgetFound_2 rfl ?_
  intro N_1 hM_N_1
  have hI_N_1 : Inv false N_1 := Inv.u hI_M hM_N_1 hk_c0 (a := (-2147483648)) (b := 2147483647) rfl rfl rfl (by omega)
  have hF_N_1 : Fr f_c_X4_forgetFound M N_1 := Fr.u hF_M hM_N_1 hk_c0 rfl
  exact kx_vret F hQ ⟨hI_N_1, hF_N_1⟩ dX4_forgetFound_5
set_option maxRecDepth 100000 in
theorem dGR_13_c_268 : (decode cX4_lengthOf 0 = .ok (.iload_n 0, 1)) ∧ (decode cX4_lengthOf 1 = .ok (.iload_n 1, 1)) ∧ (decode cX4_lengthOf 2 = .ok (.iadd, 1)) ∧ (decode cX4_lengthOf 3 = .ok (.ldc 184, 2)) ∧ (decode cX4_lengthOf 5 = .ok (.invokestatic 185, 3)) ∧ (decode cX4_lengthOf 8 = .ok (.ireturn, 1)) := by decide +kernel
theorem dX4_lengthOf_0 : decode cX4_lengthOf 0 = .ok (.iload_n 0, 1) := dGR_13_c_268.1
theorem dX4_lengthOf_1 : decode cX4_lengthOf 1 = .ok (.iload_n 1, 1) := dGR_13_c_268.2.1
theorem dX4_lengthOf_2 : decode cX4_lengthOf 2 = .ok (.iadd, 1) := dGR_13_c_268.2.2.1
theorem dX4_lengthOf_3 : decode cX4_lengthOf 3 = .ok (.ldc 184, 2) := dGR_13_c_268.2.2.2.1
theorem dX4_lengthOf_5 : decode cX4_lengthOf 5 = .ok (.invokestatic 185, 3) := dGR_13_c_268.2.2.2.2.1
theorem dX4_lengthOf_8 : decode cX4_lengthOf 8 = .ok (.ireturn, 1) := dGR_13_c_268.2.2.2.2.2
set_option maxHeartbeats 4000000 in
set_option maxRecDepth 100000 in
theorem c_X4_lengthOf (G : KG) (l : Launch) (M : Mem) (a0 : Int) (a1 : Int) (hI_M : Inv false M) (hpre : -2147483648 ≤ a0 ∧ a0 ≤ 2147483647 ∧ -2147483648 ≤ a1 ∧ a1 ≤ 2147483647 ∧ 0 ≤ a0 ∧ a0 ≤ 1000000000 ∧ 0 ≤ a1 ∧ a1 ≤ 1000000000) : KC false G l yX4_lengthOf cX4_lengthOf 2 (some .int) (1, 13) [vI a0, vI a1] M (fun A => kQi false G A (fun (r : Int) (N : Mem) => M = N ∧ (0 ≤ r ∧ r ≤ 1000000000))) := by
  refine kx_met (lo := [some (vI a0), some (vI a1)]) (by decide) (Nat.le_of_ble_eq_true rfl) rfl ?_
  intro X F hQ
  refine kx_iload_n 1 F 0 dX4_lengthOf_0 rfl rfl rfl ?_
  refine kx_iload_n 2 F 1 dX4_lengthOf_1 rfl rfl rfl ?_
  refine kx_iadd 3 F (v := a0 + a1) dX4_lengthOf_2 rfl rfl ?_
  refine kx_ldc 5 (z := 1000000000) F dX4_lengthOf_3 ct_X4_184 rfl ?_
  refine kx_mmin 8 F dX4_lengthOf_5 (tt lm_1334 rfl) (tt lm_800 rfl) (tt lm_180 rfl) (tt lm_801 rfl) (by decide) (Nat.le_of_ble_eq_true rfl) (by omega) (by omega) rfl (fun w_1 h_2 => ?_)
  exact kx_iret F hQ ⟨rfl, (by omega)⟩ dX4_lengthOf_8
set_option maxRecDepth 100000 in
theorem dGR_13_c_269 : (decode cX4_codeOf 0 = .ok (.iload_n 1, 1)) ∧ (decode cX4_codeOf 1 = .ok (.iload_n 3, 1)) ∧ (decode cX4_codeOf 2 = .ok (.iadd, 1)) ∧ (decode cX4_codeOf 3 = .ok (.bipush 6, 2)) ∧ (decode cX4_codeOf 5 = .ok (.if_icmp .le 7, 3)) ∧ (decode cX4_codeOf 8 = .ok (.iconst 0, 1)) ∧ (decode cX4_codeOf 9 = .ok (.goto 14, 3)) ∧ (decode cX4_codeOf 12 = .ok (.iload_n 2, 1)) ∧ (decode cX4_codeOf 13 = .ok (.aload_n 0, 1)) ∧ (decode cX4_codeOf 14 = .ok (.getfield 52, 3)) ∧ (decode cX4_codeOf 17 = .ok (.iload_n 3, 1)) ∧ (decode cX4_codeOf 18 = .ok (.iaload, 1)) := by decide +kernel
theorem dX4_codeOf_0 : decode cX4_codeOf 0 = .ok (.iload_n 1, 1) := dGR_13_c_269.1
theorem dX4_codeOf_1 : decode cX4_codeOf 1 = .ok (.iload_n 3, 1) := dGR_13_c_269.2.1
theorem dX4_codeOf_2 : decode cX4_codeOf 2 = .ok (.iadd, 1) := dGR_13_c_269.2.2.1
theorem dX4_codeOf_3 : decode cX4_codeOf 3 = .ok (.bipush 6, 2) := dGR_13_c_269.2.2.2.1
theorem dX4_codeOf_5 : decode cX4_codeOf 5 = .ok (.if_icmp .le 7, 3) := dGR_13_c_269.2.2.2.2.1
theorem dX4_codeOf_8 : decode cX4_codeOf 8 = .ok (.iconst 0, 1) := dGR_13_c_269.2.2.2.2.2.1
theorem dX4_codeOf_9 : decode cX4_codeOf 9 = .ok (.goto 14, 3) := dGR_13_c_269.2.2.2.2.2.2.1
theorem dX4_codeOf_12 : decode cX4_codeOf 12 = .ok (.iload_n 2, 1) := dGR_13_c_269.2.2.2.2.2.2.2.1
theorem dX4_codeOf_13 : decode cX4_codeOf 13 = .ok (.aload_n 0, 1) := dGR_13_c_269.2.2.2.2.2.2.2.2.1
theorem dX4_codeOf_14 : decode cX4_codeOf 14 = .ok (.getfield 52, 3) := dGR_13_c_269.2.2.2.2.2.2.2.2.2.1
theorem dX4_codeOf_17 : decode cX4_codeOf 17 = .ok (.iload_n 3, 1) := dGR_13_c_269.2.2.2.2.2.2.2.2.2.2.1
theorem dX4_codeOf_18 : decode cX4_codeOf 18 = .ok (.iaload, 1) := dGR_13_c_269.2.2.2.2.2.2.2.2.2.2.2
set_option maxRecDepth 100000 in
theorem dGR_13_c_270 : (decode cX4_codeOf 19 = .ok (.imul, 1)) ∧ (decode cX4_codeOf 20 = .ok (.iload 4, 2)) ∧ (decode cX4_codeOf 22 = .ok (.iadd, 1)) ∧ (decode cX4_codeOf 23 = .ok (.ireturn, 1)) := by decide +kernel
theorem dX4_codeOf_19 : decode cX4_codeOf 19 = .ok (.imul, 1) := dGR_13_c_270.1
theorem dX4_codeOf_20 : decode cX4_codeOf 20 = .ok (.iload 4, 2) := dGR_13_c_270.2.1
theorem dX4_codeOf_22 : decode cX4_codeOf 22 = .ok (.iadd, 1) := dGR_13_c_270.2.2.1
theorem dX4_codeOf_23 : decode cX4_codeOf 23 = .ok (.ireturn, 1) := dGR_13_c_270.2.2.2
set_option maxHeartbeats 4000000 in
set_option maxRecDepth 100000 in
theorem c_X4_codeOf (G : KG) (l : Launch) (M : Mem) (c0 : Int) (a1 : Int) (a2 : Int) (a3 : Int) (a4 : Int) (hI_M : Inv false M) (hk_c0 : kd c0 = 41) (hpre : -2147483648 ≤ a1 ∧ a1 ≤ 2147483647 ∧ -2147483648 ≤ a2 ∧ a2 ≤ 2147483647 ∧ -2147483648 ≤ a3 ∧ a3 ≤ 2147483647 ∧ -2147483648 ≤ a4 ∧ a4 ≤ 2147483647 ∧ 0 ≤ a1 ∧ a1 ≤ 1000000000 ∧ 0 ≤ a3 ∧ a3 ≤ 1000000000) : KC false G l yX4_codeOf cX4_codeOf 5 (some .int) (0, 0) [vR G c0, vI a1, vI a2, vI a3, vI a4] M (fun A => kQi false G A (fun (r : Int) (N : Mem) => M = N ∧ (r ≥ -2147483648 ∧ r ≤ 2147483647))) := by
  refine kx_met (lo := [some (vR G c0), some (vI a1), some (vI a2), some (vI a3), some (vI a4)]) (by decide) (Nat.le_of_ble_eq_true rfl) rfl ?_
  intro X F hQ
  refine kx_iload_n 1 F 1 dX4_codeOf_0 rfl rfl rfl ?_
  refine kx_iload_n 2 F 3 dX4_codeOf_1 rfl rfl rfl ?_
  refine kx_iadd 3 F (v := a1 + a3) dX4_codeOf_2 rfl rfl ?_
  refine kx_bipush 5 F dX4_codeOf_3 (by decide) rfl ?_
  refine kx_icmp_le 8 F 12 dX4_codeOf_5 (by decide) rfl (by omega) (by decide) (fun h_1 => ?_) (fun h_1 => ?_)
  · refine kx_iload_n 13 F 2 dX4_codeOf_12 rfl rfl rfl ?_
    refine kx_aload_n 14 F 0 dX4_codeOf_13 rfl rfl rfl ?_
    refine kx_getr 17 F fl_X4_52 hk_c0 rfl rfl (j := 16) rfl dX4_codeOf_14 (v := (M c0 16)) rfl rfl ?_
    have hk_2 : kd (M c0 16) = 46 := Inv.r hI_M hk_c0 rfl 16 rfl rfl
    refine kx_iload_n 18 F 3 dX4_codeOf_17 rfl rfl rfl ?_
    refine kx_iald 19 F hk_2 rfl rfl (by omega) (by decide) dX4_codeOf_18 (v := (M (M c0 16) a3)) rfl rfl ?_
    have h_3 := Inv.g hI_M hk_2 rfl a3 (a := (-2147483648)) (b := 2147483647) rfl rfl
    refine kx_imul 20 F (v := (a2 * (M (M c0 16) a3))) dX4_codeOf_19 rfl rfl ?_
    refine kx_wrapi (fun w_4 h_5 _ => ?_)
    refine kx_iload 22 F 4 dX4_codeOf_20 rfl rfl ?_
    refine kx_iadd 23 F (v := w_4 + a4) dX4_codeOf_22 rfl rfl ?_
    refine kx_wrapi (fun w_6 h_7 _ => ?_)
    exact kx_iret F hQ ⟨rfl, (by omega)⟩ dX4_codeOf_23
  · refine kx_iconst 9 F dX4_codeOf_8 rfl ?_
    refine kx_goto 23 F dX4_codeOf_9 (by decide) ?_
    exact kx_iret F hQ ⟨rfl, (by omega)⟩ dX4_codeOf_23
set_option maxRecDepth 100000 in
theorem dGR_13_c_271 : (decode cX4_itemOf 0 = .ok (.aload_n 0, 1)) ∧ (decode cX4_itemOf 1 = .ok (.getfield 49, 3)) ∧ (decode cX4_itemOf 4 = .ok (.iload_n 2, 1)) ∧ (decode cX4_itemOf 5 = .ok (.iaload, 1)) ∧ (decode cX4_itemOf 6 = .ok (.iconst (-1), 1)) ∧ (decode cX4_itemOf 7 = .ok (.if_icmp .ne 44, 3)) ∧ (decode cX4_itemOf 10 = .ok (.aload_n 0, 1)) ∧ (decode cX4_itemOf 11 = .ok (.getfield 116, 3)) ∧ (decode cX4_itemOf 14 = .ok (.bipush 64, 2)) ∧ (decode cX4_itemOf 16 = .ok (.if_icmp .lt 5, 3)) ∧ (decode cX4_itemOf 19 = .ok (.iconst (-1), 1)) ∧ (decode cX4_itemOf 20 = .ok (.ireturn, 1)) := by decide +kernel
theorem dX4_itemOf_0 : decode cX4_itemOf 0 = .ok (.aload_n 0, 1) := dGR_13_c_271.1
theorem dX4_itemOf_1 : decode cX4_itemOf 1 = .ok (.getfield 49, 3) := dGR_13_c_271.2.1
theorem dX4_itemOf_4 : decode cX4_itemOf 4 = .ok (.iload_n 2, 1) := dGR_13_c_271.2.2.1
theorem dX4_itemOf_5 : decode cX4_itemOf 5 = .ok (.iaload, 1) := dGR_13_c_271.2.2.2.1
theorem dX4_itemOf_6 : decode cX4_itemOf 6 = .ok (.iconst (-1), 1) := dGR_13_c_271.2.2.2.2.1
theorem dX4_itemOf_7 : decode cX4_itemOf 7 = .ok (.if_icmp .ne 44, 3) := dGR_13_c_271.2.2.2.2.2.1
theorem dX4_itemOf_10 : decode cX4_itemOf 10 = .ok (.aload_n 0, 1) := dGR_13_c_271.2.2.2.2.2.2.1
theorem dX4_itemOf_11 : decode cX4_itemOf 11 = .ok (.getfield 116, 3) := dGR_13_c_271.2.2.2.2.2.2.2.1
theorem dX4_itemOf_14 : decode cX4_itemOf 14 = .ok (.bipush 64, 2) := dGR_13_c_271.2.2.2.2.2.2.2.2.1
theorem dX4_itemOf_16 : decode cX4_itemOf 16 = .ok (.if_icmp .lt 5, 3) := dGR_13_c_271.2.2.2.2.2.2.2.2.2.1
theorem dX4_itemOf_19 : decode cX4_itemOf 19 = .ok (.iconst (-1), 1) := dGR_13_c_271.2.2.2.2.2.2.2.2.2.2.1
theorem dX4_itemOf_20 : decode cX4_itemOf 20 = .ok (.ireturn, 1) := dGR_13_c_271.2.2.2.2.2.2.2.2.2.2.2
set_option maxRecDepth 100000 in
theorem dGR_13_c_272 : (decode cX4_itemOf 21 = .ok (.aload_n 0, 1)) ∧ (decode cX4_itemOf 22 = .ok (.getfield 46, 3)) ∧ (decode cX4_itemOf 25 = .ok (.aload_n 0, 1)) ∧ (decode cX4_itemOf 26 = .ok (.getfield 116, 3)) ∧ (decode cX4_itemOf 29 = .ok (.iload_n 2, 1)) ∧ (decode cX4_itemOf 30 = .ok (.iastore, 1)) ∧ (decode cX4_itemOf 31 = .ok (.aload_n 0, 1)) ∧ (decode cX4_itemOf 32 = .ok (.getfield 49, 3)) ∧ (decode cX4_itemOf 35 = .ok (.iload_n 2, 1)) ∧ (decode cX4_itemOf 36 = .ok (.aload_n 0, 1)) ∧ (decode cX4_itemOf 37 = .ok (.getfield 116, 3)) ∧ (decode cX4_itemOf 40 = .ok (.iastore, 1)) := by decide +kernel
theorem dX4_itemOf_21 : decode cX4_itemOf 21 = .ok (.aload_n 0, 1) := dGR_13_c_272.1
theorem dX4_itemOf_22 : decode cX4_itemOf 22 = .ok (.getfield 46, 3) := dGR_13_c_272.2.1
theorem dX4_itemOf_25 : decode cX4_itemOf 25 = .ok (.aload_n 0, 1) := dGR_13_c_272.2.2.1
theorem dX4_itemOf_26 : decode cX4_itemOf 26 = .ok (.getfield 116, 3) := dGR_13_c_272.2.2.2.1
theorem dX4_itemOf_29 : decode cX4_itemOf 29 = .ok (.iload_n 2, 1) := dGR_13_c_272.2.2.2.2.1
theorem dX4_itemOf_30 : decode cX4_itemOf 30 = .ok (.iastore, 1) := dGR_13_c_272.2.2.2.2.2.1
theorem dX4_itemOf_31 : decode cX4_itemOf 31 = .ok (.aload_n 0, 1) := dGR_13_c_272.2.2.2.2.2.2.1
theorem dX4_itemOf_32 : decode cX4_itemOf 32 = .ok (.getfield 49, 3) := dGR_13_c_272.2.2.2.2.2.2.2.1
theorem dX4_itemOf_35 : decode cX4_itemOf 35 = .ok (.iload_n 2, 1) := dGR_13_c_272.2.2.2.2.2.2.2.2.1
theorem dX4_itemOf_36 : decode cX4_itemOf 36 = .ok (.aload_n 0, 1) := dGR_13_c_272.2.2.2.2.2.2.2.2.2.1
theorem dX4_itemOf_37 : decode cX4_itemOf 37 = .ok (.getfield 116, 3) := dGR_13_c_272.2.2.2.2.2.2.2.2.2.2.1
theorem dX4_itemOf_40 : decode cX4_itemOf 40 = .ok (.iastore, 1) := dGR_13_c_272.2.2.2.2.2.2.2.2.2.2.2
set_option maxRecDepth 100000 in
theorem dGR_13_c_273 : (decode cX4_itemOf 41 = .ok (.aload_n 0, 1)) ∧ (decode cX4_itemOf 42 = .ok (.dup, 1)) ∧ (decode cX4_itemOf 43 = .ok (.getfield 116, 3)) ∧ (decode cX4_itemOf 46 = .ok (.iconst 1, 1)) ∧ (decode cX4_itemOf 47 = .ok (.iadd, 1)) ∧ (decode cX4_itemOf 48 = .ok (.putfield 116, 3)) ∧ (decode cX4_itemOf 51 = .ok (.iload_n 1, 1)) ∧ (decode cX4_itemOf 52 = .ok (.bipush 64, 2)) ∧ (decode cX4_itemOf 54 = .ok (.imul, 1)) ∧ (decode cX4_itemOf 55 = .ok (.aload_n 0, 1)) ∧ (decode cX4_itemOf 56 = .ok (.getfield 49, 3)) ∧ (decode cX4_itemOf 59 = .ok (.iload_n 2, 1)) := by decide +kernel
theorem dX4_itemOf_41 : decode cX4_itemOf 41 = .ok (.aload_n 0, 1) := dGR_13_c_273.1
theorem dX4_itemOf_42 : decode cX4_itemOf 42 = .ok (.dup, 1) := dGR_13_c_273.2.1
theorem dX4_itemOf_43 : decode cX4_itemOf 43 = .ok (.getfield 116, 3) := dGR_13_c_273.2.2.1
theorem dX4_itemOf_46 : decode cX4_itemOf 46 = .ok (.iconst 1, 1) := dGR_13_c_273.2.2.2.1
theorem dX4_itemOf_47 : decode cX4_itemOf 47 = .ok (.iadd, 1) := dGR_13_c_273.2.2.2.2.1
theorem dX4_itemOf_48 : decode cX4_itemOf 48 = .ok (.putfield 116, 3) := dGR_13_c_273.2.2.2.2.2.1
theorem dX4_itemOf_51 : decode cX4_itemOf 51 = .ok (.iload_n 1, 1) := dGR_13_c_273.2.2.2.2.2.2.1
theorem dX4_itemOf_52 : decode cX4_itemOf 52 = .ok (.bipush 64, 2) := dGR_13_c_273.2.2.2.2.2.2.2.1
theorem dX4_itemOf_54 : decode cX4_itemOf 54 = .ok (.imul, 1) := dGR_13_c_273.2.2.2.2.2.2.2.2.1
theorem dX4_itemOf_55 : decode cX4_itemOf 55 = .ok (.aload_n 0, 1) := dGR_13_c_273.2.2.2.2.2.2.2.2.2.1
theorem dX4_itemOf_56 : decode cX4_itemOf 56 = .ok (.getfield 49, 3) := dGR_13_c_273.2.2.2.2.2.2.2.2.2.2.1
theorem dX4_itemOf_59 : decode cX4_itemOf 59 = .ok (.iload_n 2, 1) := dGR_13_c_273.2.2.2.2.2.2.2.2.2.2.2
set_option maxRecDepth 100000 in
theorem dGR_13_c_274 : (decode cX4_itemOf 60 = .ok (.iaload, 1)) ∧ (decode cX4_itemOf 61 = .ok (.iadd, 1)) ∧ (decode cX4_itemOf 62 = .ok (.ireturn, 1)) := by decide +kernel
theorem dX4_itemOf_60 : decode cX4_itemOf 60 = .ok (.iaload, 1) := dGR_13_c_274.1
theorem dX4_itemOf_61 : decode cX4_itemOf 61 = .ok (.iadd, 1) := dGR_13_c_274.2.1
theorem dX4_itemOf_62 : decode cX4_itemOf 62 = .ok (.ireturn, 1) := dGR_13_c_274.2.2
abbrev f_c_X4_itemOf : List (Nat × Int) := [(41, 13), (44, -1), (45, -1)]
set_option maxHeartbeats 4000000 in
set_option maxRecDepth 100000 in
theorem c_X4_itemOf (G : KG) (l : Launch) (M : Mem) (c0 : Int) (a1 : Int) (a2 : Int) (hI_M : Inv false M) (hk_c0 : kd c0 = 41) (hpre : -2147483648 ≤ a1 ∧ a1 ≤ 2147483647 ∧ -2147483648 ≤ a2 ∧ a2 ≤ 2147483647 ∧ 0 ≤ a1 ∧ a1 ≤ 8 ∧ 0 ≤ a2 ∧ a2 ≤ 511) : KC false G l yX4_itemOf cX4_itemOf 3 (some .int) (0, 0) [vR G c0, vI a1, vI a2] M (fun A => kQi false G A (fun (r : Int) (N : Mem) => Inv false N ∧ Fr f_c_X4_itemOf M N ∧ (r ≥ -1 ∧ r ≤ 575))) := by
  refine kx_met (lo := [some (vR G c0), some (vI a1), some (vI a2)]) (by decide) (Nat.le_of_ble_eq_true rfl) rfl ?_
  intro X F hQ
  have hF_M : Fr f_c_X4_itemOf M M := Fr.rf _ _
  refine kx_aload_n 1 F 0 dX4_itemOf_0 rfl rfl rfl ?_
  refine kx_getr 4 F fl_X4_49 hk_c0 rfl rfl (j := 15) rfl dX4_itemOf_1 (v := (M c0 15)) rfl rfl ?_
  have hk_1 : kd (M c0 15) = 45 := Inv.r hI_M hk_c0 rfl 15 rfl rfl
  refine kx_iload_n 5 F 2 dX4_itemOf_4 rfl rfl rfl ?_
  refine kx_iald 6 F hk_1 rfl rfl (by omega) (by decide) dX4_itemOf_5 (v := (M (M c0 15) a2)) rfl rfl ?_
  have h_2 := Inv.g hI_M hk_1 rfl a2 (a := (-1)) (b := 63) rfl rfl
  refine kx_iconst 7 F dX4_itemOf_6 rfl ?_
  refine kx_icmp_ne 10 F 51 dX4_itemOf_7 (by decide) rfl (by omega) (by decide) (fun h_3 => ?_) (fun h_3 => ?_)
  · refine kx_iload_n 52 F 1 dX4_itemOf_51 rfl rfl rfl ?_
    refine kx_bipush 54 F dX4_itemOf_52 (by decide) rfl ?_
    refine kx_imul 55 F (v := 64 * a1) dX4_itemOf_54 (by omega) rfl ?_
    refine kx_aload_n 56 F 0 dX4_itemOf_55 rfl rfl rfl ?_
    refine kx_getr 59 F fl_X4_49 hk_c0 rfl rfl (j := 15) rfl dX4_itemOf_56 (v := (M c0 15)) rfl rfl ?_
    refine kx_iload_n 60 F 2 dX4_itemOf_59 rfl rfl rfl ?_
    refine kx_iald 61 F hk_1 rfl rfl (by omega) (by decide) dX4_itemOf_60 (v := (M (M c0 15) a2)) rfl rfl ?_
    refine kx_iadd 62 F (v := 64 * a1 + (M (M c0 15) a2)) dX4_itemOf_61 rfl rfl ?_
    exact kx_iret F hQ ⟨hI_M, hF_M, (by omega)⟩ dX4_itemOf_62
  · refine kx_aload_n 11 F 0 dX4_itemOf_10 rfl rfl rfl ?_
    refine kx_geti 14 F fl_X4_116 hk_c0 rfl rfl (j := 13) rfl dX4_itemOf_11 (v := (M c0 13)) rfl rfl ?_
    have h_4 := Inv.g hI_M hk_c0 rfl 13 (a := 0) (b := 64) rfl rfl
    refine kx_bipush 16 F dX4_itemOf_14 (by decide) rfl ?_
    refine kx_icmp_lt 19 F 21 dX4_itemOf_16 (by decide) rfl (by omega) (by decide) (fun h_5 => ?_) (fun h_5 => ?_)
    · refine kx_aload_n 22 F 0 dX4_itemOf_21 rfl rfl rfl ?_
      refine kx_getr 25 F fl_X4_46 hk_c0 rfl rfl (j := 14) rfl dX4_itemOf_22 (v := (M c0 14)) rfl rfl ?_
      have hk_6 : kd (M c0 14) = 44 := Inv.r hI_M hk_c0 rfl 14 rfl rfl
      refine kx_aload_n 26 F 0 dX4_itemOf_25 rfl rfl rfl ?_
      refine kx_geti 29 F fl_X4_116 hk_c0 rfl rfl (j := 13) rfl dX4_itemOf_26 (v := (M c0 13)) rfl rfl ?_
      refine kx_iload_n 30 F 2 dX4_itemOf_29 rfl rfl rfl ?_
      refine kx_iast 31 F hk_6 rfl rfl (by omega) (by decide) dX4_itemOf_30 rfl ?_
      intro N_7 hM_N_7
      have hI_N_7 : Inv false N_7 := Inv.u hI_M hM_N_7 hk_6 (a := 0) (b := 511) rfl rfl rfl (by omega)
      have hF_N_7 : Fr f_c_X4_itemOf M N_7 := Fr.u hF_M hM_N_7 hk_6 rfl
      refine kx_aload_n 32 F 0 dX4_itemOf_31 rfl rfl rfl ?_
      refine kx_getr 35 F fl_X4_49 hk_c0 rfl rfl (j := 15) rfl dX4_itemOf_32 (v := (M c0 15)) (by rw [hM_N_7, mu_k hk_c0 hk_6 rfl]) rfl ?_
      refine kx_iload_n 36 F 2 dX4_itemOf_35 rfl rfl rfl ?_
      refine kx_aload_n 37 F 0 dX4_itemOf_36 rfl rfl rfl ?_
      refine kx_geti 40 F fl_X4_116 hk_c0 rfl rfl (j := 13) rfl dX4_itemOf_37 (v := (M c0 13)) (by rw [hM_N_7, mu_k hk_c0 hk_6 rfl]) rfl ?_
      refine kx_iast 41 F hk_1 rfl rfl (by omega) (by decide) dX4_itemOf_40 rfl ?_
      intro N_8 hM_N_8
      have hI_N_8 : Inv false N_8 := Inv.u hI_N_7 hM_N_8 hk_1 (a := (-1)) (b := 63) rfl rfl rfl (by omega)
      have hF_N_8 : Fr f_c_X4_itemOf M N_8 := Fr.u hF_N_7 hM_N_8 hk_1 rfl
      refine kx_aload_n 42 F 0 dX4_itemOf_41 rfl rfl rfl ?_
      refine kx_dup 43 F dX4_itemOf_42 rfl rfl ?_
      refine kx_geti 46 F fl_X4_116 hk_c0 rfl rfl (j := 13) rfl dX4_itemOf_43 (v := (M c0 13)) (by rw [hM_N_8, mu_k hk_c0 hk_1 rfl, hM_N_7, mu_k hk_c0 hk_6 rfl]) rfl ?_
      refine kx_iconst 47 F dX4_itemOf_46 rfl ?_
      refine kx_iadd 48 F (v := (M c0 13) + 1) dX4_itemOf_47 rfl rfl ?_
      refine kx_puti 51 F fw_X4_116 rfl hk_c0 rfl rfl (j := 13) rfl dX4_itemOf_48 rfl ?_
      intro N_9 hM_N_9
      have hI_N_9 : Inv false N_9 := Inv.u hI_N_8 hM_N_9 hk_c0 (a := 0) (b := 64) rfl rfl rfl (by omega)
      have hF_N_9 : Fr f_c_X4_itemOf M N_9 := Fr.u hF_N_8 hM_N_9 hk_c0 rfl
      refine kx_iload_n 52 F 1 dX4_itemOf_51 rfl rfl rfl ?_
      refine kx_bipush 54 F dX4_itemOf_52 (by decide) rfl ?_
      refine kx_imul 55 F (v := 64 * a1) dX4_itemOf_54 (by omega) rfl ?_
      refine kx_aload_n 56 F 0 dX4_itemOf_55 rfl rfl rfl ?_
      refine kx_getr 59 F fl_X4_49 hk_c0 rfl rfl (j := 15) rfl dX4_itemOf_56 (v := (M c0 15)) (by rw [hM_N_9, mu_i (by omega), hM_N_8, mu_k hk_c0 hk_1 rfl, hM_N_7, mu_k hk_c0 hk_6 rfl]) rfl ?_
      refine kx_iload_n 60 F 2 dX4_itemOf_59 rfl rfl rfl ?_
      refine kx_iald 61 F hk_1 rfl rfl (by omega) (by decide) dX4_itemOf_60 (v := (M c0 13)) (by rw [hM_N_9, mu_k hk_1 hk_c0 rfl, hM_N_8, mu_s]) rfl ?_
      refine kx_iadd 62 F (v := 64 * a1 + (M c0 13)) dX4_itemOf_61 rfl rfl ?_
      exact kx_iret F hQ ⟨hI_N_9, hF_N_9, (by omega)⟩ dX4_itemOf_62
    · refine kx_iconst 20 F dX4_itemOf_19 rfl ?_
      exact kx_iret F hQ ⟨hI_M, hF_M, (by omega)⟩ dX4_itemOf_20
set_option maxRecDepth 100000 in
theorem dGR_13_c_275 : (decode cX4_offerAll 0 = .ok (.iconst 0, 1)) ∧ (decode cX4_offerAll 1 = .ok (.istore 6, 2)) ∧ (decode cX4_offerAll 3 = .ok (.iload 6, 2)) ∧ (decode cX4_offerAll 5 = .ok (.bipush 9, 2)) ∧ (decode cX4_offerAll 7 = .ok (.if_icmp .ge 89, 3)) ∧ (decode cX4_offerAll 10 = .ok (.iload_n 2, 1)) ∧ (decode cX4_offerAll 11 = .ok (.iload 6, 2)) ∧ (decode cX4_offerAll 13 = .ok (.ishr, 1)) ∧ (decode cX4_offerAll 14 = .ok (.iconst 1, 1)) ∧ (decode cX4_offerAll 15 = .ok (.iand, 1)) ∧ (decode cX4_offerAll 16 = .ok (.ifCond .ne 6, 3)) ∧ (decode cX4_offerAll 19 = .ok (.goto 71, 3)) := by decide +kernel
theorem dX4_offerAll_0 : decode cX4_offerAll 0 = .ok (.iconst 0, 1) := dGR_13_c_275.1
theorem dX4_offerAll_1 : decode cX4_offerAll 1 = .ok (.istore 6, 2) := dGR_13_c_275.2.1
theorem dX4_offerAll_3 : decode cX4_offerAll 3 = .ok (.iload 6, 2) := dGR_13_c_275.2.2.1
theorem dX4_offerAll_5 : decode cX4_offerAll 5 = .ok (.bipush 9, 2) := dGR_13_c_275.2.2.2.1
theorem dX4_offerAll_7 : decode cX4_offerAll 7 = .ok (.if_icmp .ge 89, 3) := dGR_13_c_275.2.2.2.2.1
theorem dX4_offerAll_10 : decode cX4_offerAll 10 = .ok (.iload_n 2, 1) := dGR_13_c_275.2.2.2.2.2.1
theorem dX4_offerAll_11 : decode cX4_offerAll 11 = .ok (.iload 6, 2) := dGR_13_c_275.2.2.2.2.2.2.1
theorem dX4_offerAll_13 : decode cX4_offerAll 13 = .ok (.ishr, 1) := dGR_13_c_275.2.2.2.2.2.2.2.1
theorem dX4_offerAll_14 : decode cX4_offerAll 14 = .ok (.iconst 1, 1) := dGR_13_c_275.2.2.2.2.2.2.2.2.1
theorem dX4_offerAll_15 : decode cX4_offerAll 15 = .ok (.iand, 1) := dGR_13_c_275.2.2.2.2.2.2.2.2.2.1
theorem dX4_offerAll_16 : decode cX4_offerAll 16 = .ok (.ifCond .ne 6, 3) := dGR_13_c_275.2.2.2.2.2.2.2.2.2.2.1
theorem dX4_offerAll_19 : decode cX4_offerAll 19 = .ok (.goto 71, 3) := dGR_13_c_275.2.2.2.2.2.2.2.2.2.2.2
set_option maxRecDepth 100000 in
theorem dGR_13_c_276 : (decode cX4_offerAll 22 = .ok (.aload_n 0, 1)) ∧ (decode cX4_offerAll 23 = .ok (.getfield 109, 3)) ∧ (decode cX4_offerAll 26 = .ok (.ifCond .eq 21, 3)) ∧ (decode cX4_offerAll 29 = .ok (.aload_n 1, 1)) ∧ (decode cX4_offerAll 30 = .ok (.aload_n 0, 1)) ∧ (decode cX4_offerAll 31 = .ok (.iload 6, 2)) ∧ (decode cX4_offerAll 33 = .ok (.iload_n 3, 1)) ∧ (decode cX4_offerAll 34 = .ok (.invokevirtual 87, 3)) ∧ (decode cX4_offerAll 37 = .ok (.iload 4, 2)) ∧ (decode cX4_offerAll 39 = .ok (.iload 5, 2)) ∧ (decode cX4_offerAll 41 = .ok (.invokevirtual 122, 3)) ∧ (decode cX4_offerAll 44 = .ok (.goto 46, 3)) := by decide +kernel
theorem dX4_offerAll_22 : decode cX4_offerAll 22 = .ok (.aload_n 0, 1) := dGR_13_c_276.1
theorem dX4_offerAll_23 : decode cX4_offerAll 23 = .ok (.getfield 109, 3) := dGR_13_c_276.2.1
theorem dX4_offerAll_26 : decode cX4_offerAll 26 = .ok (.ifCond .eq 21, 3) := dGR_13_c_276.2.2.1
theorem dX4_offerAll_29 : decode cX4_offerAll 29 = .ok (.aload_n 1, 1) := dGR_13_c_276.2.2.2.1
theorem dX4_offerAll_30 : decode cX4_offerAll 30 = .ok (.aload_n 0, 1) := dGR_13_c_276.2.2.2.2.1
theorem dX4_offerAll_31 : decode cX4_offerAll 31 = .ok (.iload 6, 2) := dGR_13_c_276.2.2.2.2.2.1
theorem dX4_offerAll_33 : decode cX4_offerAll 33 = .ok (.iload_n 3, 1) := dGR_13_c_276.2.2.2.2.2.2.1
theorem dX4_offerAll_34 : decode cX4_offerAll 34 = .ok (.invokevirtual 87, 3) := dGR_13_c_276.2.2.2.2.2.2.2.1
theorem dX4_offerAll_37 : decode cX4_offerAll 37 = .ok (.iload 4, 2) := dGR_13_c_276.2.2.2.2.2.2.2.2.1
theorem dX4_offerAll_39 : decode cX4_offerAll 39 = .ok (.iload 5, 2) := dGR_13_c_276.2.2.2.2.2.2.2.2.2.1
theorem dX4_offerAll_41 : decode cX4_offerAll 41 = .ok (.invokevirtual 122, 3) := dGR_13_c_276.2.2.2.2.2.2.2.2.2.2.1
theorem dX4_offerAll_44 : decode cX4_offerAll 44 = .ok (.goto 46, 3) := dGR_13_c_276.2.2.2.2.2.2.2.2.2.2.2
set_option maxRecDepth 100000 in
theorem dGR_13_c_277 : (decode cX4_offerAll 47 = .ok (.iconst 1, 1)) ∧ (decode cX4_offerAll 48 = .ok (.istore 7, 2)) ∧ (decode cX4_offerAll 50 = .ok (.iload 7, 2)) ∧ (decode cX4_offerAll 52 = .ok (.sipush 512, 3)) ∧ (decode cX4_offerAll 55 = .ok (.if_icmp .ge 35, 3)) ∧ (decode cX4_offerAll 58 = .ok (.iload_n 3, 1)) ∧ (decode cX4_offerAll 59 = .ok (.iload 7, 2)) ∧ (decode cX4_offerAll 61 = .ok (.iand, 1)) ∧ (decode cX4_offerAll 62 = .ok (.ifCond .eq 19, 3)) ∧ (decode cX4_offerAll 65 = .ok (.aload_n 1, 1)) ∧ (decode cX4_offerAll 66 = .ok (.aload_n 0, 1)) ∧ (decode cX4_offerAll 67 = .ok (.iload 6, 2)) := by decide +kernel
theorem dX4_offerAll_47 : decode cX4_offerAll 47 = .ok (.iconst 1, 1) := dGR_13_c_277.1
theorem dX4_offerAll_48 : decode cX4_offerAll 48 = .ok (.istore 7, 2) := dGR_13_c_277.2.1
theorem dX4_offerAll_50 : decode cX4_offerAll 50 = .ok (.iload 7, 2) := dGR_13_c_277.2.2.1
theorem dX4_offerAll_52 : decode cX4_offerAll 52 = .ok (.sipush 512, 3) := dGR_13_c_277.2.2.2.1
theorem dX4_offerAll_55 : decode cX4_offerAll 55 = .ok (.if_icmp .ge 35, 3) := dGR_13_c_277.2.2.2.2.1
theorem dX4_offerAll_58 : decode cX4_offerAll 58 = .ok (.iload_n 3, 1) := dGR_13_c_277.2.2.2.2.2.1
theorem dX4_offerAll_59 : decode cX4_offerAll 59 = .ok (.iload 7, 2) := dGR_13_c_277.2.2.2.2.2.2.1
theorem dX4_offerAll_61 : decode cX4_offerAll 61 = .ok (.iand, 1) := dGR_13_c_277.2.2.2.2.2.2.2.1
theorem dX4_offerAll_62 : decode cX4_offerAll 62 = .ok (.ifCond .eq 19, 3) := dGR_13_c_277.2.2.2.2.2.2.2.2.1
theorem dX4_offerAll_65 : decode cX4_offerAll 65 = .ok (.aload_n 1, 1) := dGR_13_c_277.2.2.2.2.2.2.2.2.2.1
theorem dX4_offerAll_66 : decode cX4_offerAll 66 = .ok (.aload_n 0, 1) := dGR_13_c_277.2.2.2.2.2.2.2.2.2.2.1
theorem dX4_offerAll_67 : decode cX4_offerAll 67 = .ok (.iload 6, 2) := dGR_13_c_277.2.2.2.2.2.2.2.2.2.2.2
set_option maxRecDepth 100000 in
theorem dGR_13_c_278 : (decode cX4_offerAll 69 = .ok (.iload 7, 2)) ∧ (decode cX4_offerAll 71 = .ok (.invokevirtual 87, 3)) ∧ (decode cX4_offerAll 74 = .ok (.iload 4, 2)) ∧ (decode cX4_offerAll 76 = .ok (.iload 5, 2)) ∧ (decode cX4_offerAll 78 = .ok (.invokevirtual 122, 3)) ∧ (decode cX4_offerAll 81 = .ok (.iload 7, 2)) ∧ (decode cX4_offerAll 83 = .ok (.iconst 1, 1)) ∧ (decode cX4_offerAll 84 = .ok (.ishl, 1)) ∧ (decode cX4_offerAll 85 = .ok (.istore 7, 2)) ∧ (decode cX4_offerAll 87 = .ok (.goto (-37), 3)) ∧ (decode cX4_offerAll 90 = .ok (.iinc 6 1, 3)) ∧ (decode cX4_offerAll 93 = .ok (.goto (-90), 3)) := by decide +kernel
theorem dX4_offerAll_69 : decode cX4_offerAll 69 = .ok (.iload 7, 2) := dGR_13_c_278.1
theorem dX4_offerAll_71 : decode cX4_offerAll 71 = .ok (.invokevirtual 87, 3) := dGR_13_c_278.2.1
theorem dX4_offerAll_74 : decode cX4_offerAll 74 = .ok (.iload 4, 2) := dGR_13_c_278.2.2.1
theorem dX4_offerAll_76 : decode cX4_offerAll 76 = .ok (.iload 5, 2) := dGR_13_c_278.2.2.2.1
theorem dX4_offerAll_78 : decode cX4_offerAll 78 = .ok (.invokevirtual 122, 3) := dGR_13_c_278.2.2.2.2.1
theorem dX4_offerAll_81 : decode cX4_offerAll 81 = .ok (.iload 7, 2) := dGR_13_c_278.2.2.2.2.2.1
theorem dX4_offerAll_83 : decode cX4_offerAll 83 = .ok (.iconst 1, 1) := dGR_13_c_278.2.2.2.2.2.2.1
theorem dX4_offerAll_84 : decode cX4_offerAll 84 = .ok (.ishl, 1) := dGR_13_c_278.2.2.2.2.2.2.2.1
theorem dX4_offerAll_85 : decode cX4_offerAll 85 = .ok (.istore 7, 2) := dGR_13_c_278.2.2.2.2.2.2.2.2.1
theorem dX4_offerAll_87 : decode cX4_offerAll 87 = .ok (.goto (-37), 3) := dGR_13_c_278.2.2.2.2.2.2.2.2.2.1
theorem dX4_offerAll_90 : decode cX4_offerAll 90 = .ok (.iinc 6 1, 3) := dGR_13_c_278.2.2.2.2.2.2.2.2.2.2.1
theorem dX4_offerAll_93 : decode cX4_offerAll 93 = .ok (.goto (-90), 3) := dGR_13_c_278.2.2.2.2.2.2.2.2.2.2.2
theorem dX4_offerAll_96 : decode cX4_offerAll 96 = .ok (.return_, 1) := by decide +kernel
abbrev f_c_X4_offerAllA : List (Nat × Int) := [(26, 0), (27, -1), (28, -1), (29, -1), (30, -1), (41, 13), (44, -1), (45, -1)]
set_option maxHeartbeats 4000000 in
set_option maxRecDepth 100000 in
theorem c_X4_offerAllA (G : KG) (l : Launch) (M : Mem) (c0 : Int) (c1 : Int) (a2 : Int) (a3 : Int) (a4 : Int) (a5 : Int) (hI_M : Inv false M) (hk_c0 : kd c0 = 41) (hk_c1 : kd c1 = 26) (hpre : -2147483648 ≤ a2 ∧ a2 ≤ 2147483647 ∧ -2147483648 ≤ a3 ∧ a3 ≤ 2147483647 ∧ -2147483648 ≤ a4 ∧ a4 ≤ 2147483647 ∧ -2147483648 ≤ a5 ∧ a5 ≤ 2147483647 ∧ 0 ≤ a2 ∧ a2 ≤ 511 ∧ 0 ≤ a3 ∧ a3 ≤ 511 ∧ 0 ≤ a4 ∧ a4 ≤ 1000000000) (hX_M : XX M) : KC false G l yX4_offerAll cX4_offerAll 8 none (2, 46) [vR G c0, vR G c1, vI a2, vI a3, vI a4, vI a5] M (fun A => kQv false G A (fun (N : Mem) => Inv false N ∧ Fr f_c_X4_offerAllA M N ∧ XX N)) := by
  refine kx_met (lo := [some (vR G c0), some (vR G c1), some (vI a2), some (vI a3), some (vI a4), some (vI a5), none, none]) (by decide) (Nat.le_of_ble_eq_true rfl) rfl ?_
  intro X F hQ
  have hF_M : Fr f_c_X4_offerAllA M M := Fr.rf _ _
  refine kx_iconst 1 F dX4_offerAll_0 rfl ?_
  refine kx_istore 3 F 6 (lo' := [some (vR G c0), some (vR G c1), some (vI a2), some (vI a3), some (vI a4), some (vI a5), some (vI 0), none]) dX4_offerAll_1 (by decide) rfl rfl rfl ?_
  have L_689 : ∀ (n_690 : Nat) (x6_687 : Int) (N_688 : Mem), Inv false N_688 → Fr f_c_X4_offerAllA M N_688 → XX N_688 → 0 ≤ x6_687 ∧ x6_687 ≤ 9 → (9 - (x6_687)).toNat = n_690 → KJ false G X N_688 3 [some (vR G c0), some (vR G c1), some (vI a2), some (vI a3), some (vI a4), some (vI a5), some (vI x6_687), none] [] := by
    intro n_690
    refine Nat.strongRecOn n_690 ?_
    intro n_690 ih_691 x6_687 N_688 hI_N_688 hF_N_688 hX_N_688 h_692 hm_693
    refine kx_iload 5 F 6 dX4_offerAll_3 rfl rfl ?_
    refine kx_bipush 7 F dX4_offerAll_5 (by decide) rfl ?_
    refine kx_icmp_ge 10 F 96 dX4_offerAll_7 (by decide) rfl (by omega) (by decide) (fun h_694 => ?_) (fun h_694 => ?_)
    · exact kx_vret F hQ ⟨hI_N_688, hF_N_688, hX_N_688⟩ dX4_offerAll_96
    · refine kx_iload_n 11 F 2 dX4_offerAll_10 rfl rfl rfl ?_
      refine kx_iload 13 F 6 dX4_offerAll_11 rfl rfl ?_
      refine kx_ishr 14 F (v := (zshr a2 x6_687)) dX4_offerAll_13 rfl rfl ?_
      have h_695 := zshr_r (a := a2) (b := x6_687) (by omega)
      refine kx_iconst 15 F dX4_offerAll_14 rfl ?_
      refine kx_iand 16 F (v := (zand (zshr a2 x6_687) 1)) dX4_offerAll_15 rfl rfl ?_
      have h_696 := zand_r (a := (zshr a2 x6_687)) (b := 1) (by omega)
      have J_791 : ∀ (N_790 : Mem), Inv false N_790 → Fr f_c_X4_offerAllA M N_790 → XX N_790 → KJ false G X N_790 90 [some (vR G c0), some (vR G c1), some (vI a2), some (vI a3), some (vI a4), some (vI a5), some (vI x6_687), none] [] := by
        intro N_790 hI_N_790 hF_N_790 hX_N_790
        refine kx_iinc 93 F 6 (v := x6_687 + 1) (lo' := [some (vR G c0), some (vR G c1), some (vI a2), some (vI a3), some (vI a4), some (vI a5), some (vI (x6_687 + 1)), none]) dX4_offerAll_90 rfl (by omega) (by decide) rfl rfl rfl ?_
        refine kx_goto 3 F dX4_offerAll_93 (by decide) ?_
        exact ih_691 _ (by omega) (x6_687 + 1) N_790 hI_N_790 hF_N_790 hX_N_790 (by omega) rfl
      refine kx_if_ne 19 F 22 dX4_offerAll_16 (by decide) rfl (by omega) (fun h_793 => ?_) (fun h_793 => ?_)
      · refine kx_aload_n 23 F 0 dX4_offerAll_22 rfl rfl rfl ?_
        refine kx_geti 26 F fl_X4_109 hk_c0 rfl rfl (j := 9) rfl dX4_offerAll_23 (v := (M c0 9)) (by rw [Fr.e hF_N_688 hk_c0 _ rfl]) rfl ?_
        have h_794 := Inv.g hI_M hk_c0 rfl 9 (a := 0) (b := 1) rfl rfl
        refine kx_if_eq 29 F 47 dX4_offerAll_26 (by decide) rfl (by omega) (fun h_795 => ?_) (fun h_795 => ?_)
        · refine kx_iconst 48 F dX4_offerAll_47 rfl ?_
          refine kx_istore 50 F 7 (lo' := [some (vR G c0), some (vR G c1), some (vI a2), some (vI a3), some (vI a4), some (vI a5), some (vI x6_687), some (vI 1)]) dX4_offerAll_48 (by decide) rfl rfl rfl ?_
          have L_868 : ∀ (n_869 : Nat) (x7_866 : Int) (N_867 : Mem), Inv false N_867 → Fr f_c_X4_offerAllA M N_867 → XX N_867 → 1 ≤ x7_866 ∧ x7_866 ≤ 1022 → (1022 - (x7_866)).toNat = n_869 → KJ false G X N_867 50 [some (vR G c0), some (vR G c1), some (vI a2), some (vI a3), some (vI a4), some (vI a5), some (vI x6_687), some (vI x7_866)] [] := by
            intro n_869
            refine Nat.strongRecOn n_869 ?_
            intro n_869 ih_870 x7_866 N_867 hI_N_867 hF_N_867 hX_N_867 h_871 hm_872
            refine kx_iload 52 F 7 dX4_offerAll_50 rfl rfl ?_
            refine kx_sipush 55 F dX4_offerAll_52 (by decide) rfl ?_
            refine kx_icmp_ge 58 F 90 dX4_offerAll_55 (by decide) rfl (by omega) (by decide) (fun h_873 => ?_) (fun h_873 => ?_)
            · refine kx_drop 7 (lo' := [some (vR G c0), some (vR G c1), some (vI a2), some (vI a3), some (vI a4), some (vI a5), some (vI x6_687), none]) rfl ?_
              exact J_791 N_867 hI_N_867 hF_N_867 hX_N_867
            · refine kx_iload_n 59 F 3 dX4_offerAll_58 rfl rfl rfl ?_
              refine kx_iload 61 F 7 dX4_offerAll_59 rfl rfl ?_
              refine kx_iand 62 F (v := (zand a3 x7_866)) dX4_offerAll_61 rfl rfl ?_
              have h_874 := zand_r (a := a3) (b := x7_866) (by omega)
              have J_882 : ∀ (N_881 : Mem), Inv false N_881 → Fr f_c_X4_offerAllA M N_881 → XX N_881 → KJ false G X N_881 81 [some (vR G c0), some (vR G c1), some (vI a2), some (vI a3), some (vI a4), some (vI a5), some (vI x6_687), some (vI x7_866)] [] := by
                intro N_881 hI_N_881 hF_N_881 hX_N_881
                refine kx_iload 83 F 7 dX4_offerAll_81 rfl rfl ?_
                refine kx_iconst 84 F dX4_offerAll_83 rfl ?_
                refine kx_ishl 85 F (v := 2 * x7_866) dX4_offerAll_84 ((zshl_c 1 (by decide) (by omega)).trans (by omega)) rfl ?_
                refine kx_istore 87 F 7 (lo' := [some (vR G c0), some (vR G c1), some (vI a2), some (vI a3), some (vI a4), some (vI a5), some (vI x6_687), some (vI (2 * x7_866))]) dX4_offerAll_85 (by decide) rfl rfl rfl ?_
                refine kx_goto 50 F dX4_offerAll_87 (by decide) ?_
                exact ih_870 _ (by omega) (2 * x7_866) N_881 hI_N_881 hF_N_881 hX_N_881 (by omega) rfl
              refine kx_if_eq 65 F 81 dX4_offerAll_62 (by decide) rfl (by omega) (fun h_884 => ?_) (fun h_884 => ?_)
              · exact J_882 N_867 hI_N_867 hF_N_867 hX_N_867
              · refine kx_aload_n 66 F 1 dX4_offerAll_65 rfl rfl rfl ?_
                refine kx_aload_n 67 F 0 dX4_offerAll_66 rfl rfl rfl ?_
                refine kx_iload 69 F 6 dX4_offerAll_67 rfl rfl ?_
                refine kx_iload 71 F 7 dX4_offerAll_69 rfl rfl ?_
                refine kx_Vi 74 (ci := 0) F (As := [vI x6_687, vI x7_866]) (st := [vR G c1]) vd_X4_87 (c_X4_itemOf G l N_867 c0 x6_687 x7_866 hI_N_867 hk_c0 (by omega)) hk_c0 rfl rfl rfl ⟨by decide, by decide⟩ rfl rfl (Nat.le_of_ble_eq_true rfl) dX4_offerAll_71 rfl ?_
                intro r_885 N_886 q_887
                obtain ⟨hI_N_886, hG_N_886, q_887c⟩ := q_887
                have hF_N_886 : Fr f_c_X4_offerAllA M N_886 := Fr.c hF_N_867 hG_N_886 rfl
                have hX_N_886 : XX N_886 := XX.fr hX_N_867 hI_N_867 hG_N_886 rfl
                refine kx_iload 76 F 4 dX4_offerAll_74 rfl rfl ?_
                refine kx_iload 78 F 5 dX4_offerAll_76 rfl rfl ?_
                refine kx_Vv 81 (ci := 0) F (As := [vI r_885, vI a4, vI a5]) (st := []) vd_X4_122 (c_X6_offerA G l N_886 c1 r_885 a4 a5 hI_N_886 hk_c1 (by omega) hX_N_886) hk_c1 rfl rfl rfl ⟨by decide, by decide⟩ rfl rfl (Nat.le_of_ble_eq_true rfl) dX4_offerAll_78 rfl ?_
                intro N_888 q_889
                obtain ⟨hI_N_888, hG_N_888, hX_N_888⟩ := q_889
                have hF_N_888 : Fr f_c_X4_offerAllA M N_888 := Fr.c hF_N_886 hG_N_888 rfl
                exact J_882 N_888 hI_N_888 hF_N_888 hX_N_888
          exact L_868 _ 1 N_688 hI_N_688 hF_N_688 hX_N_688 (by omega) rfl
        · refine kx_aload_n 30 F 1 dX4_offerAll_29 rfl rfl rfl ?_
          refine kx_aload_n 31 F 0 dX4_offerAll_30 rfl rfl rfl ?_
          refine kx_iload 33 F 6 dX4_offerAll_31 rfl rfl ?_
          refine kx_iload_n 34 F 3 dX4_offerAll_33 rfl rfl rfl ?_
          refine kx_Vi 37 (ci := 0) F (As := [vI x6_687, vI a3]) (st := [vR G c1]) vd_X4_87 (c_X4_itemOf G l N_688 c0 x6_687 a3 hI_N_688 hk_c0 (by omega)) hk_c0 rfl rfl rfl ⟨by decide, by decide⟩ rfl rfl (Nat.le_of_ble_eq_true rfl) dX4_offerAll_34 rfl ?_
          intro r_890 N_891 q_892
          obtain ⟨hI_N_891, hG_N_891, q_892c⟩ := q_892
          have hF_N_891 : Fr f_c_X4_offerAllA M N_891 := Fr.c hF_N_688 hG_N_891 rfl
          have hX_N_891 : XX N_891 := XX.fr hX_N_688 hI_N_688 hG_N_891 rfl
          refine kx_iload 39 F 4 dX4_offerAll_37 rfl rfl ?_
          refine kx_iload 41 F 5 dX4_offerAll_39 rfl rfl ?_
          refine kx_Vv 44 (ci := 0) F (As := [vI r_890, vI a4, vI a5]) (st := []) vd_X4_122 (c_X6_offerA G l N_891 c1 r_890 a4 a5 hI_N_891 hk_c1 (by omega) hX_N_891) hk_c1 rfl rfl rfl ⟨by decide, by decide⟩ rfl rfl (Nat.le_of_ble_eq_true rfl) dX4_offerAll_41 rfl ?_
          intro N_893 q_894
          obtain ⟨hI_N_893, hG_N_893, hX_N_893⟩ := q_894
          have hF_N_893 : Fr f_c_X4_offerAllA M N_893 := Fr.c hF_N_891 hG_N_893 rfl
          refine kx_goto 90 F dX4_offerAll_44 (by decide) ?_
          exact J_791 N_893 hI_N_893 hF_N_893 hX_N_893
      · refine kx_goto 90 F dX4_offerAll_19 (by decide) ?_
        exact J_791 N_688 hI_N_688 hF_N_688 hX_N_688
  exact L_689 _ 0 M hI_M hF_M hX_M (by omega) rfl
abbrev f_c_X4_offerAllC : List (Nat × Int) := [(36, 0), (37, -1), (38, -1), (39, -1), (40, -1), (41, 13), (44, -1), (45, -1)]
set_option maxHeartbeats 4000000 in
set_option maxRecDepth 100000 in
theorem c_X4_offerAllC (G : KG) (l : Launch) (M : Mem) (c0 : Int) (c1 : Int) (a2 : Int) (a3 : Int) (a4 : Int) (a5 : Int) (hI_M : Inv false M) (hk_c0 : kd c0 = 41) (hk_c1 : kd c1 = 36) (hpre : -2147483648 ≤ a2 ∧ a2 ≤ 2147483647 ∧ -2147483648 ≤ a3 ∧ a3 ≤ 2147483647 ∧ -2147483648 ≤ a4 ∧ a4 ≤ 2147483647 ∧ -2147483648 ≤ a5 ∧ a5 ≤ 2147483647 ∧ 0 ≤ a2 ∧ a2 ≤ 511 ∧ 0 ≤ a3 ∧ a3 ≤ 511 ∧ 0 ≤ a4 ∧ a4 ≤ 1000000000) (hX_M : XX M) : KC false G l yX4_offerAll cX4_offerAll 8 none (2, 46) [vR G c0, vR G c1, vI a2, vI a3, vI a4, vI a5] M (fun A => kQv false G A (fun (N : Mem) => Inv false N ∧ Fr f_c_X4_offerAllC M N ∧ XX N)) := by
  refine kx_met (lo := [some (vR G c0), some (vR G c1), some (vI a2), some (vI a3), some (vI a4), some (vI a5), none, none]) (by decide) (Nat.le_of_ble_eq_true rfl) rfl ?_
  intro X F hQ
  have hF_M : Fr f_c_X4_offerAllC M M := Fr.rf _ _
  refine kx_iconst 1 F dX4_offerAll_0 rfl ?_
  refine kx_istore 3 F 6 (lo' := [some (vR G c0), some (vR G c1), some (vI a2), some (vI a3), some (vI a4), some (vI a5), some (vI 0), none]) dX4_offerAll_1 (by decide) rfl rfl rfl ?_
  have L_689 : ∀ (n_690 : Nat) (x6_687 : Int) (N_688 : Mem), Inv false N_688 → Fr f_c_X4_offerAllC M N_688 → XX N_688 → 0 ≤ x6_687 ∧ x6_687 ≤ 9 → (9 - (x6_687)).toNat = n_690 → KJ false G X N_688 3 [some (vR G c0), some (vR G c1), some (vI a2), some (vI a3), some (vI a4), some (vI a5), some (vI x6_687), none] [] := by
    intro n_690
    refine Nat.strongRecOn n_690 ?_
    intro n_690 ih_691 x6_687 N_688 hI_N_688 hF_N_688 hX_N_688 h_692 hm_693
    refine kx_iload 5 F 6 dX4_offerAll_3 rfl rfl ?_
    refine kx_bipush 7 F dX4_offerAll_5 (by decide) rfl ?_
    refine kx_icmp_ge 10 F 96 dX4_offerAll_7 (by decide) rfl (by omega) (by decide) (fun h_694 => ?_) (fun h_694 => ?_)
    · exact kx_vret F hQ ⟨hI_N_688, hF_N_688, hX_N_688⟩ dX4_offerAll_96
    · refine kx_iload_n 11 F 2 dX4_offerAll_10 rfl rfl rfl ?_
      refine kx_iload 13 F 6 dX4_offerAll_11 rfl rfl ?_
      refine kx_ishr 14 F (v := (zshr a2 x6_687)) dX4_offerAll_13 rfl rfl ?_
      have h_695 := zshr_r (a := a2) (b := x6_687) (by omega)
      refine kx_iconst 15 F dX4_offerAll_14 rfl ?_
      refine kx_iand 16 F (v := (zand (zshr a2 x6_687) 1)) dX4_offerAll_15 rfl rfl ?_
      have h_696 := zand_r (a := (zshr a2 x6_687)) (b := 1) (by omega)
      have J_791 : ∀ (N_790 : Mem), Inv false N_790 → Fr f_c_X4_offerAllC M N_790 → XX N_790 → KJ false G X N_790 90 [some (vR G c0), some (vR G c1), some (vI a2), some (vI a3), some (vI a4), some (vI a5), some (vI x6_687), none] [] := by
        intro N_790 hI_N_790 hF_N_790 hX_N_790
        refine kx_iinc 93 F 6 (v := x6_687 + 1) (lo' := [some (vR G c0), some (vR G c1), some (vI a2), some (vI a3), some (vI a4), some (vI a5), some (vI (x6_687 + 1)), none]) dX4_offerAll_90 rfl (by omega) (by decide) rfl rfl rfl ?_
        refine kx_goto 3 F dX4_offerAll_93 (by decide) ?_
        exact ih_691 _ (by omega) (x6_687 + 1) N_790 hI_N_790 hF_N_790 hX_N_790 (by omega) rfl
      refine kx_if_ne 19 F 22 dX4_offerAll_16 (by decide) rfl (by omega) (fun h_793 => ?_) (fun h_793 => ?_)
      · refine kx_aload_n 23 F 0 dX4_offerAll_22 rfl rfl rfl ?_
        refine kx_geti 26 F fl_X4_109 hk_c0 rfl rfl (j := 9) rfl dX4_offerAll_23 (v := (M c0 9)) (by rw [Fr.e hF_N_688 hk_c0 _ rfl]) rfl ?_
        have h_794 := Inv.g hI_M hk_c0 rfl 9 (a := 0) (b := 1) rfl rfl
        refine kx_if_eq 29 F 47 dX4_offerAll_26 (by decide) rfl (by omega) (fun h_795 => ?_) (fun h_795 => ?_)
        · refine kx_iconst 48 F dX4_offerAll_47 rfl ?_
          refine kx_istore 50 F 7 (lo' := [some (vR G c0), some (vR G c1), some (vI a2), some (vI a3), some (vI a4), some (vI a5), some (vI x6_687), some (vI 1)]) dX4_offerAll_48 (by decide) rfl rfl rfl ?_
          have L_868 : ∀ (n_869 : Nat) (x7_866 : Int) (N_867 : Mem), Inv false N_867 → Fr f_c_X4_offerAllC M N_867 → XX N_867 → 1 ≤ x7_866 ∧ x7_866 ≤ 1022 → (1022 - (x7_866)).toNat = n_869 → KJ false G X N_867 50 [some (vR G c0), some (vR G c1), some (vI a2), some (vI a3), some (vI a4), some (vI a5), some (vI x6_687), some (vI x7_866)] [] := by
            intro n_869
            refine Nat.strongRecOn n_869 ?_
            intro n_869 ih_870 x7_866 N_867 hI_N_867 hF_N_867 hX_N_867 h_871 hm_872
            refine kx_iload 52 F 7 dX4_offerAll_50 rfl rfl ?_
            refine kx_sipush 55 F dX4_offerAll_52 (by decide) rfl ?_
            refine kx_icmp_ge 58 F 90 dX4_offerAll_55 (by decide) rfl (by omega) (by decide) (fun h_873 => ?_) (fun h_873 => ?_)
            · refine kx_drop 7 (lo' := [some (vR G c0), some (vR G c1), some (vI a2), some (vI a3), some (vI a4), some (vI a5), some (vI x6_687), none]) rfl ?_
              exact J_791 N_867 hI_N_867 hF_N_867 hX_N_867
            · refine kx_iload_n 59 F 3 dX4_offerAll_58 rfl rfl rfl ?_
              refine kx_iload 61 F 7 dX4_offerAll_59 rfl rfl ?_
              refine kx_iand 62 F (v := (zand a3 x7_866)) dX4_offerAll_61 rfl rfl ?_
              have h_874 := zand_r (a := a3) (b := x7_866) (by omega)
              have J_882 : ∀ (N_881 : Mem), Inv false N_881 → Fr f_c_X4_offerAllC M N_881 → XX N_881 → KJ false G X N_881 81 [some (vR G c0), some (vR G c1), some (vI a2), some (vI a3), some (vI a4), some (vI a5), some (vI x6_687), some (vI x7_866)] [] := by
                intro N_881 hI_N_881 hF_N_881 hX_N_881
                refine kx_iload 83 F 7 dX4_offerAll_81 rfl rfl ?_
                refine kx_iconst 84 F dX4_offerAll_83 rfl ?_
                refine kx_ishl 85 F (v := 2 * x7_866) dX4_offerAll_84 ((zshl_c 1 (by decide) (by omega)).trans (by omega)) rfl ?_
                refine kx_istore 87 F 7 (lo' := [some (vR G c0), some (vR G c1), some (vI a2), some (vI a3), some (vI a4), some (vI a5), some (vI x6_687), some (vI (2 * x7_866))]) dX4_offerAll_85 (by decide) rfl rfl rfl ?_
                refine kx_goto 50 F dX4_offerAll_87 (by decide) ?_
                exact ih_870 _ (by omega) (2 * x7_866) N_881 hI_N_881 hF_N_881 hX_N_881 (by omega) rfl
              refine kx_if_eq 65 F 81 dX4_offerAll_62 (by decide) rfl (by omega) (fun h_884 => ?_) (fun h_884 => ?_)
              · exact J_882 N_867 hI_N_867 hF_N_867 hX_N_867
              · refine kx_aload_n 66 F 1 dX4_offerAll_65 rfl rfl rfl ?_
                refine kx_aload_n 67 F 0 dX4_offerAll_66 rfl rfl rfl ?_
                refine kx_iload 69 F 6 dX4_offerAll_67 rfl rfl ?_
                refine kx_iload 71 F 7 dX4_offerAll_69 rfl rfl ?_
                refine kx_Vi 74 (ci := 0) F (As := [vI x6_687, vI x7_866]) (st := [vR G c1]) vd_X4_87 (c_X4_itemOf G l N_867 c0 x6_687 x7_866 hI_N_867 hk_c0 (by omega)) hk_c0 rfl rfl rfl ⟨by decide, by decide⟩ rfl rfl (Nat.le_of_ble_eq_true rfl) dX4_offerAll_71 rfl ?_
                intro r_885 N_886 q_887
                obtain ⟨hI_N_886, hG_N_886, q_887c⟩ := q_887
                have hF_N_886 : Fr f_c_X4_offerAllC M N_886 := Fr.c hF_N_867 hG_N_886 rfl
                have hX_N_886 : XX N_886 := XX.fr hX_N_867 hI_N_867 hG_N_886 rfl
                refine kx_iload 76 F 4 dX4_offerAll_74 rfl rfl ?_
                refine kx_iload 78 F 5 dX4_offerAll_76 rfl rfl ?_
                refine kx_Vv 81 (ci := 0) F (As := [vI r_885, vI a4, vI a5]) (st := []) vd_X4_122 (c_X6_offerC G l N_886 c1 r_885 a4 a5 hI_N_886 hk_c1 (by omega) hX_N_886) hk_c1 rfl rfl rfl ⟨by decide, by decide⟩ rfl rfl (Nat.le_of_ble_eq_true rfl) dX4_offerAll_78 rfl ?_
                intro N_888 q_889
                obtain ⟨hI_N_888, hG_N_888, hX_N_888⟩ := q_889
                have hF_N_888 : Fr f_c_X4_offerAllC M N_888 := Fr.c hF_N_886 hG_N_888 rfl
                exact J_882 N_888 hI_N_888 hF_N_888 hX_N_888
          exact L_868 _ 1 N_688 hI_N_688 hF_N_688 hX_N_688 (by omega) rfl
        · refine kx_aload_n 30 F 1 dX4_offerAll_29 rfl rfl rfl ?_
          refine kx_aload_n 31 F 0 dX4_offerAll_30 rfl rfl rfl ?_
          refine kx_iload 33 F 6 dX4_offerAll_31 rfl rfl ?_
          refine kx_iload_n 34 F 3 dX4_offerAll_33 rfl rfl rfl ?_
          refine kx_Vi 37 (ci := 0) F (As := [vI x6_687, vI a3]) (st := [vR G c1]) vd_X4_87 (c_X4_itemOf G l N_688 c0 x6_687 a3 hI_N_688 hk_c0 (by omega)) hk_c0 rfl rfl rfl ⟨by decide, by decide⟩ rfl rfl (Nat.le_of_ble_eq_true rfl) dX4_offerAll_34 rfl ?_
          intro r_890 N_891 q_892
          obtain ⟨hI_N_891, hG_N_891, q_892c⟩ := q_892
          have hF_N_891 : Fr f_c_X4_offerAllC M N_891 := Fr.c hF_N_688 hG_N_891 rfl
          have hX_N_891 : XX N_891 := XX.fr hX_N_688 hI_N_688 hG_N_891 rfl
          refine kx_iload 39 F 4 dX4_offerAll_37 rfl rfl ?_
          refine kx_iload 41 F 5 dX4_offerAll_39 rfl rfl ?_
          refine kx_Vv 44 (ci := 0) F (As := [vI r_890, vI a4, vI a5]) (st := []) vd_X4_122 (c_X6_offerC G l N_891 c1 r_890 a4 a5 hI_N_891 hk_c1 (by omega) hX_N_891) hk_c1 rfl rfl rfl ⟨by decide, by decide⟩ rfl rfl (Nat.le_of_ble_eq_true rfl) dX4_offerAll_41 rfl ?_
          intro N_893 q_894
          obtain ⟨hI_N_893, hG_N_893, hX_N_893⟩ := q_894
          have hF_N_893 : Fr f_c_X4_offerAllC M N_893 := Fr.c hF_N_891 hG_N_893 rfl
          refine kx_goto 90 F dX4_offerAll_44 (by decide) ?_
          exact J_791 N_893 hI_N_893 hF_N_893 hX_N_893
      · refine kx_goto 90 F dX4_offerAll_19 (by decide) ?_
        exact J_791 N_688 hI_N_688 hF_N_688 hX_N_688
  exact L_689 _ 0 M hI_M hF_M hX_M (by omega) rfl
set_option maxRecDepth 100000 in
theorem dGR_13_c_279 : (decode cX4_join 0 = .ok (.iload_n 1, 1)) ∧ (decode cX4_join 1 = .ok (.bipush 64, 2)) ∧ (decode cX4_join 3 = .ok (.idiv, 1)) ∧ (decode cX4_join 4 = .ok (.istore_n 3, 1)) ∧ (decode cX4_join 5 = .ok (.iload_n 2, 1)) ∧ (decode cX4_join 6 = .ok (.bipush 64, 2)) ∧ (decode cX4_join 8 = .ok (.idiv, 1)) ∧ (decode cX4_join 9 = .ok (.istore 4, 2)) ∧ (decode cX4_join 11 = .ok (.iload_n 3, 1)) ∧ (decode cX4_join 12 = .ok (.iconst 3, 1)) ∧ (decode cX4_join 13 = .ok (.irem, 1)) ∧ (decode cX4_join 14 = .ok (.iload 4, 2)) := by decide +kernel
theorem dX4_join_0 : decode cX4_join 0 = .ok (.iload_n 1, 1) := dGR_13_c_279.1
theorem dX4_join_1 : decode cX4_join 1 = .ok (.bipush 64, 2) := dGR_13_c_279.2.1
theorem dX4_join_3 : decode cX4_join 3 = .ok (.idiv, 1) := dGR_13_c_279.2.2.1
theorem dX4_join_4 : decode cX4_join 4 = .ok (.istore_n 3, 1) := dGR_13_c_279.2.2.2.1
theorem dX4_join_5 : decode cX4_join 5 = .ok (.iload_n 2, 1) := dGR_13_c_279.2.2.2.2.1
theorem dX4_join_6 : decode cX4_join 6 = .ok (.bipush 64, 2) := dGR_13_c_279.2.2.2.2.2.1
theorem dX4_join_8 : decode cX4_join 8 = .ok (.idiv, 1) := dGR_13_c_279.2.2.2.2.2.2.1
theorem dX4_join_9 : decode cX4_join 9 = .ok (.istore 4, 2) := dGR_13_c_279.2.2.2.2.2.2.2.1
theorem dX4_join_11 : decode cX4_join 11 = .ok (.iload_n 3, 1) := dGR_13_c_279.2.2.2.2.2.2.2.2.1
theorem dX4_join_12 : decode cX4_join 12 = .ok (.iconst 3, 1) := dGR_13_c_279.2.2.2.2.2.2.2.2.2.1
theorem dX4_join_13 : decode cX4_join 13 = .ok (.irem, 1) := dGR_13_c_279.2.2.2.2.2.2.2.2.2.2.1
theorem dX4_join_14 : decode cX4_join 14 = .ok (.iload 4, 2) := dGR_13_c_279.2.2.2.2.2.2.2.2.2.2.2
set_option maxRecDepth 100000 in
theorem dGR_13_c_280 : (decode cX4_join 16 = .ok (.iconst 3, 1)) ∧ (decode cX4_join 17 = .ok (.idiv, 1)) ∧ (decode cX4_join 18 = .ok (.if_icmp .eq 4, 3)) ∧ (decode cX4_join 21 = .ok (.return_, 1)) ∧ (decode cX4_join 22 = .ok (.aload_n 0, 1)) ∧ (decode cX4_join 23 = .ok (.getfield 46, 3)) ∧ (decode cX4_join 26 = .ok (.iload_n 1, 1)) ∧ (decode cX4_join 27 = .ok (.bipush 64, 2)) ∧ (decode cX4_join 29 = .ok (.irem, 1)) ∧ (decode cX4_join 30 = .ok (.iaload, 1)) ∧ (decode cX4_join 31 = .ok (.aload_n 0, 1)) ∧ (decode cX4_join 32 = .ok (.getfield 46, 3)) := by decide +kernel
theorem dX4_join_16 : decode cX4_join 16 = .ok (.iconst 3, 1) := dGR_13_c_280.1
theorem dX4_join_17 : decode cX4_join 17 = .ok (.idiv, 1) := dGR_13_c_280.2.1
theorem dX4_join_18 : decode cX4_join 18 = .ok (.if_icmp .eq 4, 3) := dGR_13_c_280.2.2.1
theorem dX4_join_21 : decode cX4_join 21 = .ok (.return_, 1) := dGR_13_c_280.2.2.2.1
theorem dX4_join_22 : decode cX4_join 22 = .ok (.aload_n 0, 1) := dGR_13_c_280.2.2.2.2.1
theorem dX4_join_23 : decode cX4_join 23 = .ok (.getfield 46, 3) := dGR_13_c_280.2.2.2.2.2.1
theorem dX4_join_26 : decode cX4_join 26 = .ok (.iload_n 1, 1) := dGR_13_c_280.2.2.2.2.2.2.1
theorem dX4_join_27 : decode cX4_join 27 = .ok (.bipush 64, 2) := dGR_13_c_280.2.2.2.2.2.2.2.1
theorem dX4_join_29 : decode cX4_join 29 = .ok (.irem, 1) := dGR_13_c_280.2.2.2.2.2.2.2.2.1
theorem dX4_join_30 : decode cX4_join 30 = .ok (.iaload, 1) := dGR_13_c_280.2.2.2.2.2.2.2.2.2.1
theorem dX4_join_31 : decode cX4_join 31 = .ok (.aload_n 0, 1) := dGR_13_c_280.2.2.2.2.2.2.2.2.2.2.1
theorem dX4_join_32 : decode cX4_join 32 = .ok (.getfield 46, 3) := dGR_13_c_280.2.2.2.2.2.2.2.2.2.2.2
set_option maxRecDepth 100000 in
theorem dGR_13_c_281 : (decode cX4_join 35 = .ok (.iload_n 2, 1)) ∧ (decode cX4_join 36 = .ok (.bipush 64, 2)) ∧ (decode cX4_join 38 = .ok (.irem, 1)) ∧ (decode cX4_join 39 = .ok (.iaload, 1)) ∧ (decode cX4_join 40 = .ok (.invokestatic 167, 3)) ∧ (decode cX4_join 43 = .ok (.istore 5, 2)) ∧ (decode cX4_join 45 = .ok (.aload_n 0, 1)) ∧ (decode cX4_join 46 = .ok (.getfield 109, 3)) ∧ (decode cX4_join 49 = .ok (.ifCond .ne 8, 3)) ∧ (decode cX4_join 52 = .ok (.iload 5, 2)) ∧ (decode cX4_join 54 = .ok (.ifCond .eq 87, 3)) ∧ (decode cX4_join 57 = .ok (.aload_n 0, 1)) := by decide +kernel
theorem dX4_join_35 : decode cX4_join 35 = .ok (.iload_n 2, 1) := dGR_13_c_281.1
theorem dX4_join_36 : decode cX4_join 36 = .ok (.bipush 64, 2) := dGR_13_c_281.2.1
theorem dX4_join_38 : decode cX4_join 38 = .ok (.irem, 1) := dGR_13_c_281.2.2.1
theorem dX4_join_39 : decode cX4_join 39 = .ok (.iaload, 1) := dGR_13_c_281.2.2.2.1
theorem dX4_join_40 : decode cX4_join 40 = .ok (.invokestatic 167, 3) := dGR_13_c_281.2.2.2.2.1
theorem dX4_join_43 : decode cX4_join 43 = .ok (.istore 5, 2) := dGR_13_c_281.2.2.2.2.2.1
theorem dX4_join_45 : decode cX4_join 45 = .ok (.aload_n 0, 1) := dGR_13_c_281.2.2.2.2.2.2.1
theorem dX4_join_46 : decode cX4_join 46 = .ok (.getfield 109, 3) := dGR_13_c_281.2.2.2.2.2.2.2.1
theorem dX4_join_49 : decode cX4_join 49 = .ok (.ifCond .ne 8, 3) := dGR_13_c_281.2.2.2.2.2.2.2.2.1
theorem dX4_join_52 : decode cX4_join 52 = .ok (.iload 5, 2) := dGR_13_c_281.2.2.2.2.2.2.2.2.2.1
theorem dX4_join_54 : decode cX4_join 54 = .ok (.ifCond .eq 87, 3) := dGR_13_c_281.2.2.2.2.2.2.2.2.2.2.1
theorem dX4_join_57 : decode cX4_join 57 = .ok (.aload_n 0, 1) := dGR_13_c_281.2.2.2.2.2.2.2.2.2.2.2
set_option maxRecDepth 100000 in
theorem dGR_13_c_282 : (decode cX4_join 58 = .ok (.getfield 36, 3)) ∧ (decode cX4_join 61 = .ok (.aload_n 0, 1)) ∧ (decode cX4_join 62 = .ok (.iload_n 3, 1)) ∧ (decode cX4_join 63 = .ok (.iconst 3, 1)) ∧ (decode cX4_join 64 = .ok (.idiv, 1)) ∧ (decode cX4_join 65 = .ok (.iconst 3, 1)) ∧ (decode cX4_join 66 = .ok (.imul, 1)) ∧ (decode cX4_join 67 = .ok (.iload 4, 2)) ∧ (decode cX4_join 69 = .ok (.iconst 3, 1)) ∧ (decode cX4_join 70 = .ok (.irem, 1)) ∧ (decode cX4_join 71 = .ok (.iadd, 1)) ∧ (decode cX4_join 72 = .ok (.iload 5, 2)) := by decide +kernel
theorem dX4_join_58 : decode cX4_join 58 = .ok (.getfield 36, 3) := dGR_13_c_282.1
theorem dX4_join_61 : decode cX4_join 61 = .ok (.aload_n 0, 1) := dGR_13_c_282.2.1
theorem dX4_join_62 : decode cX4_join 62 = .ok (.iload_n 3, 1) := dGR_13_c_282.2.2.1
theorem dX4_join_63 : decode cX4_join 63 = .ok (.iconst 3, 1) := dGR_13_c_282.2.2.2.1
theorem dX4_join_64 : decode cX4_join 64 = .ok (.idiv, 1) := dGR_13_c_282.2.2.2.2.1
theorem dX4_join_65 : decode cX4_join 65 = .ok (.iconst 3, 1) := dGR_13_c_282.2.2.2.2.2.1
theorem dX4_join_66 : decode cX4_join 66 = .ok (.imul, 1) := dGR_13_c_282.2.2.2.2.2.2.1
theorem dX4_join_67 : decode cX4_join 67 = .ok (.iload 4, 2) := dGR_13_c_282.2.2.2.2.2.2.2.1
theorem dX4_join_69 : decode cX4_join 69 = .ok (.iconst 3, 1) := dGR_13_c_282.2.2.2.2.2.2.2.2.1
theorem dX4_join_70 : decode cX4_join 70 = .ok (.irem, 1) := dGR_13_c_282.2.2.2.2.2.2.2.2.2.1
theorem dX4_join_71 : decode cX4_join 71 = .ok (.iadd, 1) := dGR_13_c_282.2.2.2.2.2.2.2.2.2.2.1
theorem dX4_join_72 : decode cX4_join 72 = .ok (.iload 5, 2) := dGR_13_c_282.2.2.2.2.2.2.2.2.2.2.2
set_option maxRecDepth 100000 in
theorem dGR_13_c_283 : (decode cX4_join 74 = .ok (.invokevirtual 87, 3)) ∧ (decode cX4_join 77 = .ok (.aload_n 0, 1)) ∧ (decode cX4_join 78 = .ok (.getfield 36, 3)) ∧ (decode cX4_join 81 = .ok (.getfield 94, 3)) ∧ (decode cX4_join 84 = .ok (.iload_n 1, 1)) ∧ (decode cX4_join 85 = .ok (.iaload, 1)) ∧ (decode cX4_join 86 = .ok (.aload_n 0, 1)) ∧ (decode cX4_join 87 = .ok (.getfield 40, 3)) ∧ (decode cX4_join 90 = .ok (.getfield 94, 3)) ∧ (decode cX4_join 93 = .ok (.iload_n 2, 1)) ∧ (decode cX4_join 94 = .ok (.iaload, 1)) ∧ (decode cX4_join 95 = .ok (.invokestatic 170, 3)) := by decide +kernel
theorem dX4_join_74 : decode cX4_join 74 = .ok (.invokevirtual 87, 3) := dGR_13_c_283.1
theorem dX4_join_77 : decode cX4_join 77 = .ok (.aload_n 0, 1) := dGR_13_c_283.2.1
theorem dX4_join_78 : decode cX4_join 78 = .ok (.getfield 36, 3) := dGR_13_c_283.2.2.1
theorem dX4_join_81 : decode cX4_join 81 = .ok (.getfield 94, 3) := dGR_13_c_283.2.2.2.1
theorem dX4_join_84 : decode cX4_join 84 = .ok (.iload_n 1, 1) := dGR_13_c_283.2.2.2.2.1
theorem dX4_join_85 : decode cX4_join 85 = .ok (.iaload, 1) := dGR_13_c_283.2.2.2.2.2.1
theorem dX4_join_86 : decode cX4_join 86 = .ok (.aload_n 0, 1) := dGR_13_c_283.2.2.2.2.2.2.1
theorem dX4_join_87 : decode cX4_join 87 = .ok (.getfield 40, 3) := dGR_13_c_283.2.2.2.2.2.2.2.1
theorem dX4_join_90 : decode cX4_join 90 = .ok (.getfield 94, 3) := dGR_13_c_283.2.2.2.2.2.2.2.2.1
theorem dX4_join_93 : decode cX4_join 93 = .ok (.iload_n 2, 1) := dGR_13_c_283.2.2.2.2.2.2.2.2.2.1
theorem dX4_join_94 : decode cX4_join 94 = .ok (.iaload, 1) := dGR_13_c_283.2.2.2.2.2.2.2.2.2.2.1
theorem dX4_join_95 : decode cX4_join 95 = .ok (.invokestatic 170, 3) := dGR_13_c_283.2.2.2.2.2.2.2.2.2.2.2
set_option maxRecDepth 100000 in
theorem dGR_13_c_284 : (decode cX4_join 98 = .ok (.aload_n 0, 1)) ∧ (decode cX4_join 99 = .ok (.aload_n 0, 1)) ∧ (decode cX4_join 100 = .ok (.getfield 36, 3)) ∧ (decode cX4_join 103 = .ok (.getfield 94, 3)) ∧ (decode cX4_join 106 = .ok (.iload_n 1, 1)) ∧ (decode cX4_join 107 = .ok (.iaload, 1)) ∧ (decode cX4_join 108 = .ok (.aload_n 0, 1)) ∧ (decode cX4_join 109 = .ok (.getfield 36, 3)) ∧ (decode cX4_join 112 = .ok (.getfield 173, 3)) ∧ (decode cX4_join 115 = .ok (.iload_n 1, 1)) ∧ (decode cX4_join 116 = .ok (.iaload, 1)) ∧ (decode cX4_join 117 = .ok (.aload_n 0, 1)) := by decide +kernel
theorem dX4_join_98 : decode cX4_join 98 = .ok (.aload_n 0, 1) := dGR_13_c_284.1
theorem dX4_join_99 : decode cX4_join 99 = .ok (.aload_n 0, 1) := dGR_13_c_284.2.1
theorem dX4_join_100 : decode cX4_join 100 = .ok (.getfield 36, 3) := dGR_13_c_284.2.2.1
theorem dX4_join_103 : decode cX4_join 103 = .ok (.getfield 94, 3) := dGR_13_c_284.2.2.2.1
theorem dX4_join_106 : decode cX4_join 106 = .ok (.iload_n 1, 1) := dGR_13_c_284.2.2.2.2.1
theorem dX4_join_107 : decode cX4_join 107 = .ok (.iaload, 1) := dGR_13_c_284.2.2.2.2.2.1
theorem dX4_join_108 : decode cX4_join 108 = .ok (.aload_n 0, 1) := dGR_13_c_284.2.2.2.2.2.2.1
theorem dX4_join_109 : decode cX4_join 109 = .ok (.getfield 36, 3) := dGR_13_c_284.2.2.2.2.2.2.2.1
theorem dX4_join_112 : decode cX4_join 112 = .ok (.getfield 173, 3) := dGR_13_c_284.2.2.2.2.2.2.2.2.1
theorem dX4_join_115 : decode cX4_join 115 = .ok (.iload_n 1, 1) := dGR_13_c_284.2.2.2.2.2.2.2.2.2.1
theorem dX4_join_116 : decode cX4_join 116 = .ok (.iaload, 1) := dGR_13_c_284.2.2.2.2.2.2.2.2.2.2.1
theorem dX4_join_117 : decode cX4_join 117 = .ok (.aload_n 0, 1) := dGR_13_c_284.2.2.2.2.2.2.2.2.2.2.2
set_option maxRecDepth 100000 in
theorem dGR_13_c_285 : (decode cX4_join 118 = .ok (.getfield 40, 3)) ∧ (decode cX4_join 121 = .ok (.getfield 94, 3)) ∧ (decode cX4_join 124 = .ok (.iload_n 2, 1)) ∧ (decode cX4_join 125 = .ok (.iaload, 1)) ∧ (decode cX4_join 126 = .ok (.aload_n 0, 1)) ∧ (decode cX4_join 127 = .ok (.getfield 40, 3)) ∧ (decode cX4_join 130 = .ok (.getfield 173, 3)) ∧ (decode cX4_join 133 = .ok (.iload_n 2, 1)) ∧ (decode cX4_join 134 = .ok (.iaload, 1)) ∧ (decode cX4_join 135 = .ok (.invokevirtual 176, 3)) ∧ (decode cX4_join 138 = .ok (.invokevirtual 122, 3)) ∧ (decode cX4_join 141 = .ok (.return_, 1)) := by decide +kernel
theorem dX4_join_118 : decode cX4_join 118 = .ok (.getfield 40, 3) := dGR_13_c_285.1
theorem dX4_join_121 : decode cX4_join 121 = .ok (.getfield 94, 3) := dGR_13_c_285.2.1
theorem dX4_join_124 : decode cX4_join 124 = .ok (.iload_n 2, 1) := dGR_13_c_285.2.2.1
theorem dX4_join_125 : decode cX4_join 125 = .ok (.iaload, 1) := dGR_13_c_285.2.2.2.1
theorem dX4_join_126 : decode cX4_join 126 = .ok (.aload_n 0, 1) := dGR_13_c_285.2.2.2.2.1
theorem dX4_join_127 : decode cX4_join 127 = .ok (.getfield 40, 3) := dGR_13_c_285.2.2.2.2.2.1
theorem dX4_join_130 : decode cX4_join 130 = .ok (.getfield 173, 3) := dGR_13_c_285.2.2.2.2.2.2.1
theorem dX4_join_133 : decode cX4_join 133 = .ok (.iload_n 2, 1) := dGR_13_c_285.2.2.2.2.2.2.2.1
theorem dX4_join_134 : decode cX4_join 134 = .ok (.iaload, 1) := dGR_13_c_285.2.2.2.2.2.2.2.2.1
theorem dX4_join_135 : decode cX4_join 135 = .ok (.invokevirtual 176, 3) := dGR_13_c_285.2.2.2.2.2.2.2.2.2.1
theorem dX4_join_138 : decode cX4_join 138 = .ok (.invokevirtual 122, 3) := dGR_13_c_285.2.2.2.2.2.2.2.2.2.2.1
theorem dX4_join_141 : decode cX4_join 141 = .ok (.return_, 1) := dGR_13_c_285.2.2.2.2.2.2.2.2.2.2.2
abbrev f_c_X4_join : List (Nat × Int) := [(26, 0), (27, -1), (28, -1), (29, -1), (30, -1), (41, 13), (44, -1), (45, -1)]
set_option maxHeartbeats 4000000 in
set_option maxRecDepth 100000 in
theorem c_X4_join (G : KG) (l : Launch) (M : Mem) (c0 : Int) (a1 : Int) (a2 : Int) (hI_M : Inv false M) (hk_c0 : kd c0 = 41) (hpre : -2147483648 ≤ a1 ∧ a1 ≤ 2147483647 ∧ -2147483648 ≤ a2 ∧ a2 ≤ 2147483647 ∧ 0 ≤ a1 ∧ a1 ≤ 575 ∧ 0 ≤ a2 ∧ a2 ≤ 575) (hX_M : XX M) : KC false G l yX4_join cX4_join 6 none (2, 46) [vR G c0, vI a1, vI a2] M (fun A => kQv false G A (fun (N : Mem) => Inv false N ∧ Fr f_c_X4_join M N ∧ XX N)) := by
  refine kx_met (lo := [some (vR G c0), some (vI a1), some (vI a2), none, none, none]) (by decide) (Nat.le_of_ble_eq_true rfl) rfl ?_
  intro X F hQ
  have hF_M : Fr f_c_X4_join M M := Fr.rf _ _
  refine kx_iload_n 1 F 1 dX4_join_0 rfl rfl rfl ?_
  refine kx_bipush 3 F dX4_join_1 (by decide) rfl ?_
  refine kx_idiv 4 F (v := (a1 / 64)) dX4_join_3 (by omega) (by decide) rfl rfl ?_
  refine kx_istore_n 5 F 3 (lo' := [some (vR G c0), some (vI a1), some (vI a2), some (vI (a1 / 64)), none, none]) dX4_join_4 rfl (by decide) rfl rfl rfl ?_
  refine kx_iload_n 6 F 2 dX4_join_5 rfl rfl rfl ?_
  refine kx_bipush 8 F dX4_join_6 (by decide) rfl ?_
  refine kx_idiv 9 F (v := (a2 / 64)) dX4_join_8 (by omega) (by decide) rfl rfl ?_
  refine kx_istore 11 F 4 (lo' := [some (vR G c0), some (vI a1), some (vI a2), some (vI (a1 / 64)), some (vI (a2 / 64)), none]) dX4_join_9 (by decide) rfl rfl rfl ?_
  refine kx_iload_n 12 F 3 dX4_join_11 rfl rfl rfl ?_
  refine kx_iconst 13 F dX4_join_12 rfl ?_
  refine kx_irem 14 F (v := ((a1 / 64) % 3)) dX4_join_13 (by omega) (by decide) rfl rfl ?_
  refine kx_iload 16 F 4 dX4_join_14 rfl rfl ?_
  refine kx_iconst 17 F dX4_join_16 rfl ?_
  refine kx_idiv 18 F (v := ((a2 / 64) / 3)) dX4_join_17 (by omega) (by decide) rfl rfl ?_
  refine kx_icmp_eq 21 F 22 dX4_join_18 (by decide) rfl (by omega) (by omega) (fun h_1 => ?_) (fun h_1 => ?_)
  · refine kx_aload_n 23 F 0 dX4_join_22 rfl rfl rfl ?_
    refine kx_getr 26 F fl_X4_46 hk_c0 rfl rfl (j := 14) rfl dX4_join_23 (v := (M c0 14)) rfl rfl ?_
    have hk_2 : kd (M c0 14) = 44 := Inv.r hI_M hk_c0 rfl 14 rfl rfl
    refine kx_iload_n 27 F 1 dX4_join_26 rfl rfl rfl ?_
    refine kx_bipush 29 F dX4_join_27 (by decide) rfl ?_
    refine kx_irem 30 F (v := (a1 % 64)) dX4_join_29 (by omega) (by decide) rfl rfl ?_
    refine kx_iald 31 F hk_2 rfl rfl (by omega) (by decide) dX4_join_30 (v := (M (M c0 14) (a1 % 64))) rfl rfl ?_
    have h_3 := Inv.g hI_M hk_2 rfl (a1 % 64) (a := 0) (b := 511) rfl rfl
    refine kx_aload_n 32 F 0 dX4_join_31 rfl rfl rfl ?_
    refine kx_getr 35 F fl_X4_46 hk_c0 rfl rfl (j := 14) rfl dX4_join_32 (v := (M c0 14)) rfl rfl ?_
    refine kx_iload_n 36 F 2 dX4_join_35 rfl rfl rfl ?_
    refine kx_bipush 38 F dX4_join_36 (by decide) rfl ?_
    refine kx_irem 39 F (v := (a2 % 64)) dX4_join_38 (by omega) (by decide) rfl rfl ?_
    refine kx_iald 40 F hk_2 rfl rfl (by omega) (by decide) dX4_join_39 (v := (M (M c0 14) (a2 % 64))) rfl rfl ?_
    have h_4 := Inv.g hI_M hk_2 rfl (a2 % 64) (a := 0) (b := 511) rfl rfl
    refine kx_Si 43 F (As := [vI (M (M c0 14) (a1 % 64)), vI (M (M c0 14) (a2 % 64))]) (st := []) sd_X4_167 (c_X2_compose G l M (M (M c0 14) (a1 % 64)) (M (M c0 14) (a2 % 64)) hI_M (by omega)) ⟨by decide, by decide⟩ rfl rfl (Nat.le_of_ble_eq_true rfl) dX4_join_40 rfl ?_
    intro r_5 N_6 q_7
    obtain ⟨rfl, q_7c⟩ := q_7
    refine kx_istore 45 F 5 (lo' := [some (vR G c0), some (vI a1), some (vI a2), some (vI (a1 / 64)), some (vI (a2 / 64)), some (vI r_5)]) dX4_join_43 (by decide) rfl rfl rfl ?_
    refine kx_aload_n 46 F 0 dX4_join_45 rfl rfl rfl ?_
    refine kx_geti 49 F fl_X4_109 hk_c0 rfl rfl (j := 9) rfl dX4_join_46 (v := (M c0 9)) rfl rfl ?_
    have h_8 := Inv.g hI_M hk_c0 rfl 9 (a := 0) (b := 1) rfl rfl
    have J_11 : KJ false G X M 57 [some (vR G c0), some (vI a1), some (vI a2), some (vI (a1 / 64)), some (vI (a2 / 64)), some (vI r_5)] [] := by
      refine kx_aload_n 58 F 0 dX4_join_57 rfl rfl rfl ?_
      refine kx_getr 61 F fl_X4_36 hk_c0 rfl rfl (j := 10) rfl dX4_join_58 (v := (M c0 10)) rfl rfl ?_
      have hk_13 : kd (M c0 10) = 26 := Inv.r hI_M hk_c0 rfl 10 rfl rfl
      refine kx_aload_n 62 F 0 dX4_join_61 rfl rfl rfl ?_
      refine kx_iload_n 63 F 3 dX4_join_62 rfl rfl rfl ?_
      refine kx_iconst 64 F dX4_join_63 rfl ?_
      refine kx_idiv 65 F (v := ((a1 / 64) / 3)) dX4_join_64 (by omega) (by decide) rfl rfl ?_
      refine kx_iconst 66 F dX4_join_65 rfl ?_
      refine kx_imul 67 F (v := 3 * ((a1 / 64) / 3)) dX4_join_66 (by omega) rfl ?_
      refine kx_iload 69 F 4 dX4_join_67 rfl rfl ?_
      refine kx_iconst 70 F dX4_join_69 rfl ?_
      refine kx_irem 71 F (v := ((a2 / 64) % 3)) dX4_join_70 (by omega) (by decide) rfl rfl ?_
      refine kx_iadd 72 F (v := 3 * ((a1 / 64) / 3) + ((a2 / 64) % 3)) dX4_join_71 rfl rfl ?_
      refine kx_iload 74 F 5 dX4_join_72 rfl rfl ?_
      refine kx_Vi 77 (ci := 0) F (As := [vI (3 * ((a1 / 64) / 3) + ((a2 / 64) % 3)), vI r_5]) (st := [vR G (M c0 10)]) vd_X4_87 (c_X4_itemOf G l M c0 (3 * ((a1 / 64) / 3) + ((a2 / 64) % 3)) r_5 hI_M hk_c0 (by omega)) hk_c0 rfl rfl rfl ⟨by decide, by decide⟩ rfl rfl (Nat.le_of_ble_eq_true rfl) dX4_join_74 rfl ?_
      intro r_14 N_15 q_16
      obtain ⟨hI_N_15, hG_N_15, q_16c⟩ := q_16
      have hF_N_15 : Fr f_c_X4_join M N_15 := Fr.c hF_M hG_N_15 rfl
      have hX_N_15 : XX N_15 := XX.fr hX_M hI_M hG_N_15 rfl
      refine kx_aload_n 78 F 0 dX4_join_77 rfl rfl rfl ?_
      refine kx_getr 81 F fl_X4_36 hk_c0 rfl rfl (j := 10) rfl dX4_join_78 (v := (M c0 10)) (by rw [Fr.e hG_N_15 hk_c0 _ rfl]) rfl ?_
      refine kx_getr 84 F fl_X4_94 hk_13 rfl rfl (j := 2) rfl dX4_join_81 (v := (M (M c0 10) 2)) (by rw [Fr.e hG_N_15 hk_13 _ rfl]) rfl ?_
      have hk_17 : kd (M (M c0 10) 2) = 28 := Inv.r hI_M hk_13 rfl 2 rfl rfl
      refine kx_iload_n 85 F 1 dX4_join_84 rfl rfl rfl ?_
      refine kx_iald 86 F hk_17 rfl rfl (by omega) (by decide) dX4_join_85 (v := (M (M (M c0 10) 2) a1)) (by rw [Fr.e hG_N_15 hk_17 _ rfl]) rfl ?_
      have h_18 := Inv.g hI_M hk_17 rfl a1 (a := 0) (b := 1000000000) rfl rfl
      refine kx_aload_n 87 F 0 dX4_join_86 rfl rfl rfl ?_
      refine kx_getr 90 F fl_X4_40 hk_c0 rfl rfl (j := 11) rfl dX4_join_87 (v := (M c0 11)) (by rw [Fr.e hG_N_15 hk_c0 _ rfl]) rfl ?_
      have hk_19 : kd (M c0 11) = 36 := Inv.r hI_M hk_c0 rfl 11 rfl rfl
      refine kx_getr 93 F fl_X4_94 hk_19 rfl rfl (j := 2) rfl dX4_join_90 (v := (M (M c0 11) 2)) (by rw [Fr.e hG_N_15 hk_19 _ rfl]) rfl ?_
      have hk_20 : kd (M (M c0 11) 2) = 38 := Inv.r hI_M hk_19 rfl 2 rfl rfl
      refine kx_iload_n 94 F 2 dX4_join_93 rfl rfl rfl ?_
      refine kx_iald 95 F hk_20 rfl rfl (by omega) (by decide) dX4_join_94 (v := (M (M (M c0 11) 2) a2)) (by rw [Fr.e hG_N_15 hk_20 _ rfl]) rfl ?_
      have h_21 := Inv.g hI_M hk_20 rfl a2 (a := 0) (b := 1000000000) rfl rfl
      refine kx_Si 98 F (As := [vI (M (M (M c0 10) 2) a1), vI (M (M (M c0 11) 2) a2)]) (st := [vI r_14, vR G (M c0 10)]) sd_X4_170 (c_X4_lengthOf G l N_15 (M (M (M c0 10) 2) a1) (M (M (M c0 11) 2) a2) hI_N_15 (by omega)) ⟨by decide, by decide⟩ rfl rfl (Nat.le_of_ble_eq_true rfl) dX4_join_95 rfl ?_
      intro r_22 N_23 q_24
      obtain ⟨rfl, q_24c⟩ := q_24
      refine kx_aload_n 99 F 0 dX4_join_98 rfl rfl rfl ?_
      refine kx_aload_n 100 F 0 dX4_join_99 rfl rfl rfl ?_
      refine kx_getr 103 F fl_X4_36 hk_c0 rfl rfl (j := 10) rfl dX4_join_100 (v := (M c0 10)) (by rw [Fr.e hG_N_15 hk_c0 _ rfl]) rfl ?_
      refine kx_getr 106 F fl_X4_94 hk_13 rfl rfl (j := 2) rfl dX4_join_103 (v := (M (M c0 10) 2)) (by rw [Fr.e hG_N_15 hk_13 _ rfl]) rfl ?_
      refine kx_iload_n 107 F 1 dX4_join_106 rfl rfl rfl ?_
      refine kx_iald 108 F hk_17 rfl rfl (by omega) (by decide) dX4_join_107 (v := (M (M (M c0 10) 2) a1)) (by rw [Fr.e hG_N_15 hk_17 _ rfl]) rfl ?_
      refine kx_aload_n 109 F 0 dX4_join_108 rfl rfl rfl ?_
      refine kx_getr 112 F fl_X4_36 hk_c0 rfl rfl (j := 10) rfl dX4_join_109 (v := (M c0 10)) (by rw [Fr.e hG_N_15 hk_c0 _ rfl]) rfl ?_
      refine kx_getr 115 F fl_X4_173 hk_13 rfl rfl (j := 3) rfl dX4_join_112 (v := (M (M c0 10) 3)) (by rw [Fr.e hG_N_15 hk_13 _ rfl]) rfl ?_
      have hk_25 : kd (M (M c0 10) 3) = 29 := Inv.r hI_M hk_13 rfl 3 rfl rfl
      refine kx_iload_n 116 F 1 dX4_join_115 rfl rfl rfl ?_
      refine kx_iald 117 F hk_25 rfl rfl (by omega) (by decide) dX4_join_116 (v := (M (M (M c0 10) 3) a1)) (by rw [Fr.e hG_N_15 hk_25 _ rfl]) rfl ?_
      have h_26 := Inv.g hI_M hk_25 rfl a1 (a := (-2147483648)) (b := 2147483647) rfl rfl
      refine kx_aload_n 118 F 0 dX4_join_117 rfl rfl rfl ?_
      refine kx_getr 121 F fl_X4_40 hk_c0 rfl rfl (j := 11) rfl dX4_join_118 (v := (M c0 11)) (by rw [Fr.e hG_N_15 hk_c0 _ rfl]) rfl ?_
      refine kx_getr 124 F fl_X4_94 hk_19 rfl rfl (j := 2) rfl dX4_join_121 (v := (M (M c0 11) 2)) (by rw [Fr.e hG_N_15 hk_19 _ rfl]) rfl ?_
      refine kx_iload_n 125 F 2 dX4_join_124 rfl rfl rfl ?_
      refine kx_iald 126 F hk_20 rfl rfl (by omega) (by decide) dX4_join_125 (v := (M (M (M c0 11) 2) a2)) (by rw [Fr.e hG_N_15 hk_20 _ rfl]) rfl ?_
      refine kx_aload_n 127 F 0 dX4_join_126 rfl rfl rfl ?_
      refine kx_getr 130 F fl_X4_40 hk_c0 rfl rfl (j := 11) rfl dX4_join_127 (v := (M c0 11)) (by rw [Fr.e hG_N_15 hk_c0 _ rfl]) rfl ?_
      refine kx_getr 133 F fl_X4_173 hk_19 rfl rfl (j := 3) rfl dX4_join_130 (v := (M (M c0 11) 3)) (by rw [Fr.e hG_N_15 hk_19 _ rfl]) rfl ?_
      have hk_27 : kd (M (M c0 11) 3) = 39 := Inv.r hI_M hk_19 rfl 3 rfl rfl
      refine kx_iload_n 134 F 2 dX4_join_133 rfl rfl rfl ?_
      refine kx_iald 135 F hk_27 rfl rfl (by omega) (by decide) dX4_join_134 (v := (M (M (M c0 11) 3) a2)) (by rw [Fr.e hG_N_15 hk_27 _ rfl]) rfl ?_
      have h_28 := Inv.g hI_M hk_27 rfl a2 (a := (-2147483648)) (b := 2147483647) rfl rfl
      refine kx_Vi 138 (ci := 0) F (As := [vI (M (M (M c0 10) 2) a1), vI (M (M (M c0 10) 3) a1), vI (M (M (M c0 11) 2) a2), vI (M (M (M c0 11) 3) a2)]) (st := [vI r_22, vI r_14, vR G (M c0 10)]) vd_X4_176 (c_X4_codeOf G l N_15 c0 (M (M (M c0 10) 2) a1) (M (M (M c0 10) 3) a1) (M (M (M c0 11) 2) a2) (M (M (M c0 11) 3) a2) hI_N_15 hk_c0 (by omega)) hk_c0 rfl rfl rfl ⟨by decide, by decide⟩ rfl rfl (Nat.le_of_ble_eq_true rfl) dX4_join_135 rfl ?_
      intro r_29 N_30 q_31
      obtain ⟨rfl, q_31c⟩ := q_31
      refine kx_Vv 141 (ci := 0) F (As := [vI r_14, vI r_22, vI r_29]) (st := []) vd_X4_122 (c_X6_offerA G l N_15 (M c0 10) r_14 r_22 r_29 hI_N_15 hk_13 (by omega) hX_N_15) hk_13 rfl rfl rfl ⟨by decide, by decide⟩ rfl rfl (Nat.le_of_ble_eq_true rfl) dX4_join_138 rfl ?_
      intro N_32 q_33
      obtain ⟨hI_N_32, hG_N_32, hX_N_32⟩ := q_33
      have hF_N_32 : Fr f_c_X4_join M N_32 := Fr.c hF_N_15 hG_N_32 rfl
      exact kx_vret F hQ ⟨hI_N_32, hF_N_32, hX_N_32⟩ dX4_join_141
    refine kx_if_ne 52 F 57 dX4_join_49 (by decide) rfl (by omega) (fun h_34 => ?_) (fun h_34 => ?_)
    · exact J_11
    · refine kx_iload 54 F 5 dX4_join_52 rfl rfl ?_
      refine kx_if_eq 57 F 141 dX4_join_54 (by decide) rfl (by omega) (fun h_35 => ?_) (fun h_35 => ?_)
      · exact kx_vret F hQ ⟨hI_M, hF_M, hX_M⟩ dX4_join_141
      · exact J_11
  · exact kx_vret F hQ ⟨hI_M, hF_M, hX_M⟩ dX4_join_21
set_option maxRecDepth 100000 in
theorem dGR_13_c_286 : (decode cX4_wrap 0 = .ok (.aload_n 0, 1)) ∧ (decode cX4_wrap 1 = .ok (.getfield 36, 3)) ∧ (decode cX4_wrap 4 = .ok (.getfield 94, 3)) ∧ (decode cX4_wrap 7 = .ok (.iload_n 1, 1)) ∧ (decode cX4_wrap 8 = .ok (.iaload, 1)) ∧ (decode cX4_wrap 9 = .ok (.istore_n 2, 1)) ∧ (decode cX4_wrap 10 = .ok (.iconst 0, 1)) ∧ (decode cX4_wrap 11 = .ok (.istore_n 3, 1)) ∧ (decode cX4_wrap 12 = .ok (.iload_n 3, 1)) ∧ (decode cX4_wrap 13 = .ok (.aload_n 0, 1)) ∧ (decode cX4_wrap 14 = .ok (.getfield 100, 3)) ∧ (decode cX4_wrap 17 = .ok (.if_icmp .ge 110, 3)) := by decide +kernel
theorem dX4_wrap_0 : decode cX4_wrap 0 = .ok (.aload_n 0, 1) := dGR_13_c_286.1
theorem dX4_wrap_1 : decode cX4_wrap 1 = .ok (.getfield 36, 3) := dGR_13_c_286.2.1
theorem dX4_wrap_4 : decode cX4_wrap 4 = .ok (.getfield 94, 3) := dGR_13_c_286.2.2.1
theorem dX4_wrap_7 : decode cX4_wrap 7 = .ok (.iload_n 1, 1) := dGR_13_c_286.2.2.2.1
theorem dX4_wrap_8 : decode cX4_wrap 8 = .ok (.iaload, 1) := dGR_13_c_286.2.2.2.2.1
theorem dX4_wrap_9 : decode cX4_wrap 9 = .ok (.istore_n 2, 1) := dGR_13_c_286.2.2.2.2.2.1
theorem dX4_wrap_10 : decode cX4_wrap 10 = .ok (.iconst 0, 1) := dGR_13_c_286.2.2.2.2.2.2.1
theorem dX4_wrap_11 : decode cX4_wrap 11 = .ok (.istore_n 3, 1) := dGR_13_c_286.2.2.2.2.2.2.2.1
theorem dX4_wrap_12 : decode cX4_wrap 12 = .ok (.iload_n 3, 1) := dGR_13_c_286.2.2.2.2.2.2.2.2.1
theorem dX4_wrap_13 : decode cX4_wrap 13 = .ok (.aload_n 0, 1) := dGR_13_c_286.2.2.2.2.2.2.2.2.2.1
theorem dX4_wrap_14 : decode cX4_wrap 14 = .ok (.getfield 100, 3) := dGR_13_c_286.2.2.2.2.2.2.2.2.2.2.1
theorem dX4_wrap_17 : decode cX4_wrap 17 = .ok (.if_icmp .ge 110, 3) := dGR_13_c_286.2.2.2.2.2.2.2.2.2.2.2
set_option maxRecDepth 100000 in
theorem dGR_13_c_287 : (decode cX4_wrap 20 = .ok (.aload_n 0, 1)) ∧ (decode cX4_wrap 21 = .ok (.iconst 1, 1)) ∧ (decode cX4_wrap 22 = .ok (.iload_n 3, 1)) ∧ (decode cX4_wrap 23 = .ok (.iload_n 2, 1)) ∧ (decode cX4_wrap 24 = .ok (.aload_n 0, 1)) ∧ (decode cX4_wrap 25 = .ok (.getfield 36, 3)) ∧ (decode cX4_wrap 28 = .ok (.getfield 173, 3)) ∧ (decode cX4_wrap 31 = .ok (.iload_n 1, 1)) ∧ (decode cX4_wrap 32 = .ok (.iaload, 1)) ∧ (decode cX4_wrap 33 = .ok (.invokevirtual 176, 3)) ∧ (decode cX4_wrap 36 = .ok (.istore 4, 2)) ∧ (decode cX4_wrap 38 = .ok (.aload_n 0, 1)) := by decide +kernel
theorem dX4_wrap_20 : decode cX4_wrap 20 = .ok (.aload_n 0, 1) := dGR_13_c_287.1
theorem dX4_wrap_21 : decode cX4_wrap 21 = .ok (.iconst 1, 1) := dGR_13_c_287.2.1
theorem dX4_wrap_22 : decode cX4_wrap 22 = .ok (.iload_n 3, 1) := dGR_13_c_287.2.2.1
theorem dX4_wrap_23 : decode cX4_wrap 23 = .ok (.iload_n 2, 1) := dGR_13_c_287.2.2.2.1
theorem dX4_wrap_24 : decode cX4_wrap 24 = .ok (.aload_n 0, 1) := dGR_13_c_287.2.2.2.2.1
theorem dX4_wrap_25 : decode cX4_wrap 25 = .ok (.getfield 36, 3) := dGR_13_c_287.2.2.2.2.2.1
theorem dX4_wrap_28 : decode cX4_wrap 28 = .ok (.getfield 173, 3) := dGR_13_c_287.2.2.2.2.2.2.1
theorem dX4_wrap_31 : decode cX4_wrap 31 = .ok (.iload_n 1, 1) := dGR_13_c_287.2.2.2.2.2.2.2.1
theorem dX4_wrap_32 : decode cX4_wrap 32 = .ok (.iaload, 1) := dGR_13_c_287.2.2.2.2.2.2.2.2.1
theorem dX4_wrap_33 : decode cX4_wrap 33 = .ok (.invokevirtual 176, 3) := dGR_13_c_287.2.2.2.2.2.2.2.2.2.1
theorem dX4_wrap_36 : decode cX4_wrap 36 = .ok (.istore 4, 2) := dGR_13_c_287.2.2.2.2.2.2.2.2.2.2.1
theorem dX4_wrap_38 : decode cX4_wrap 38 = .ok (.aload_n 0, 1) := dGR_13_c_287.2.2.2.2.2.2.2.2.2.2.2
set_option maxRecDepth 100000 in
theorem dGR_13_c_288 : (decode cX4_wrap 39 = .ok (.getfield 100, 3)) ∧ (decode cX4_wrap 42 = .ok (.istore 5, 2)) ∧ (decode cX4_wrap 44 = .ok (.iload 5, 2)) ∧ (decode cX4_wrap 46 = .ok (.aload_n 0, 1)) ∧ (decode cX4_wrap 47 = .ok (.getfield 104, 3)) ∧ (decode cX4_wrap 50 = .ok (.if_icmp .ge 71, 3)) ∧ (decode cX4_wrap 53 = .ok (.aload_n 0, 1)) ∧ (decode cX4_wrap 54 = .ok (.aload_n 0, 1)) ∧ (decode cX4_wrap 55 = .ok (.getfield 40, 3)) ∧ (decode cX4_wrap 58 = .ok (.aload_n 0, 1)) ∧ (decode cX4_wrap 59 = .ok (.getfield 25, 3)) ∧ (decode cX4_wrap 62 = .ok (.iload_n 3, 1)) := by decide +kernel
theorem dX4_wrap_39 : decode cX4_wrap 39 = .ok (.getfield 100, 3) := dGR_13_c_288.1
theorem dX4_wrap_42 : decode cX4_wrap 42 = .ok (.istore 5, 2) := dGR_13_c_288.2.1
theorem dX4_wrap_44 : decode cX4_wrap 44 = .ok (.iload 5, 2) := dGR_13_c_288.2.2.1
theorem dX4_wrap_46 : decode cX4_wrap 46 = .ok (.aload_n 0, 1) := dGR_13_c_288.2.2.2.1
theorem dX4_wrap_47 : decode cX4_wrap 47 = .ok (.getfield 104, 3) := dGR_13_c_288.2.2.2.2.1
theorem dX4_wrap_50 : decode cX4_wrap 50 = .ok (.if_icmp .ge 71, 3) := dGR_13_c_288.2.2.2.2.2.1
theorem dX4_wrap_53 : decode cX4_wrap 53 = .ok (.aload_n 0, 1) := dGR_13_c_288.2.2.2.2.2.2.1
theorem dX4_wrap_54 : decode cX4_wrap 54 = .ok (.aload_n 0, 1) := dGR_13_c_288.2.2.2.2.2.2.2.1
theorem dX4_wrap_55 : decode cX4_wrap 55 = .ok (.getfield 40, 3) := dGR_13_c_288.2.2.2.2.2.2.2.2.1
theorem dX4_wrap_58 : decode cX4_wrap 58 = .ok (.aload_n 0, 1) := dGR_13_c_288.2.2.2.2.2.2.2.2.2.1
theorem dX4_wrap_59 : decode cX4_wrap 59 = .ok (.getfield 25, 3) := dGR_13_c_288.2.2.2.2.2.2.2.2.2.2.1
theorem dX4_wrap_62 : decode cX4_wrap 62 = .ok (.iload_n 3, 1) := dGR_13_c_288.2.2.2.2.2.2.2.2.2.2.2
set_option maxRecDepth 100000 in
theorem dGR_13_c_289 : (decode cX4_wrap 63 = .ok (.iload 5, 2)) ∧ (decode cX4_wrap 65 = .ok (.iconst 1, 1)) ∧ (decode cX4_wrap 66 = .ok (.iload_n 1, 1)) ∧ (decode cX4_wrap 67 = .ok (.bipush 64, 2)) ∧ (decode cX4_wrap 69 = .ok (.idiv, 1)) ∧ (decode cX4_wrap 70 = .ok (.ishl, 1)) ∧ (decode cX4_wrap 71 = .ok (.invokevirtual 180, 3)) ∧ (decode cX4_wrap 74 = .ok (.aload_n 0, 1)) ∧ (decode cX4_wrap 75 = .ok (.getfield 28, 3)) ∧ (decode cX4_wrap 78 = .ok (.iload_n 3, 1)) ∧ (decode cX4_wrap 79 = .ok (.iload 5, 2)) ∧ (decode cX4_wrap 81 = .ok (.aload_n 0, 1)) := by decide +kernel
theorem dX4_wrap_63 : decode cX4_wrap 63 = .ok (.iload 5, 2) := dGR_13_c_289.1
theorem dX4_wrap_65 : decode cX4_wrap 65 = .ok (.iconst 1, 1) := dGR_13_c_289.2.1
theorem dX4_wrap_66 : decode cX4_wrap 66 = .ok (.iload_n 1, 1) := dGR_13_c_289.2.2.1
theorem dX4_wrap_67 : decode cX4_wrap 67 = .ok (.bipush 64, 2) := dGR_13_c_289.2.2.2.1
theorem dX4_wrap_69 : decode cX4_wrap 69 = .ok (.idiv, 1) := dGR_13_c_289.2.2.2.2.1
theorem dX4_wrap_70 : decode cX4_wrap 70 = .ok (.ishl, 1) := dGR_13_c_289.2.2.2.2.2.1
theorem dX4_wrap_71 : decode cX4_wrap 71 = .ok (.invokevirtual 180, 3) := dGR_13_c_289.2.2.2.2.2.2.1
theorem dX4_wrap_74 : decode cX4_wrap 74 = .ok (.aload_n 0, 1) := dGR_13_c_289.2.2.2.2.2.2.2.1
theorem dX4_wrap_75 : decode cX4_wrap 75 = .ok (.getfield 28, 3) := dGR_13_c_289.2.2.2.2.2.2.2.2.1
theorem dX4_wrap_78 : decode cX4_wrap 78 = .ok (.iload_n 3, 1) := dGR_13_c_289.2.2.2.2.2.2.2.2.2.1
theorem dX4_wrap_79 : decode cX4_wrap 79 = .ok (.iload 5, 2) := dGR_13_c_289.2.2.2.2.2.2.2.2.2.2.1
theorem dX4_wrap_81 : decode cX4_wrap 81 = .ok (.aload_n 0, 1) := dGR_13_c_289.2.2.2.2.2.2.2.2.2.2.2
set_option maxRecDepth 100000 in
theorem dGR_13_c_290 : (decode cX4_wrap 82 = .ok (.getfield 46, 3)) ∧ (decode cX4_wrap 85 = .ok (.iload_n 1, 1)) ∧ (decode cX4_wrap 86 = .ok (.bipush 64, 2)) ∧ (decode cX4_wrap 88 = .ok (.irem, 1)) ∧ (decode cX4_wrap 89 = .ok (.iaload, 1)) ∧ (decode cX4_wrap 90 = .ok (.invokevirtual 180, 3)) ∧ (decode cX4_wrap 93 = .ok (.iload_n 2, 1)) ∧ (decode cX4_wrap 94 = .ok (.iconst 2, 1)) ∧ (decode cX4_wrap 95 = .ok (.invokestatic 170, 3)) ∧ (decode cX4_wrap 98 = .ok (.aload_n 0, 1)) ∧ (decode cX4_wrap 99 = .ok (.iload_n 2, 1)) ∧ (decode cX4_wrap 100 = .ok (.iconst 1, 1)) := by decide +kernel
theorem dX4_wrap_82 : decode cX4_wrap 82 = .ok (.getfield 46, 3) := dGR_13_c_290.1
theorem dX4_wrap_85 : decode cX4_wrap 85 = .ok (.iload_n 1, 1) := dGR_13_c_290.2.1
theorem dX4_wrap_86 : decode cX4_wrap 86 = .ok (.bipush 64, 2) := dGR_13_c_290.2.2.1
theorem dX4_wrap_88 : decode cX4_wrap 88 = .ok (.irem, 1) := dGR_13_c_290.2.2.2.1
theorem dX4_wrap_89 : decode cX4_wrap 89 = .ok (.iaload, 1) := dGR_13_c_290.2.2.2.2.1
theorem dX4_wrap_90 : decode cX4_wrap 90 = .ok (.invokevirtual 180, 3) := dGR_13_c_290.2.2.2.2.2.1
theorem dX4_wrap_93 : decode cX4_wrap 93 = .ok (.iload_n 2, 1) := dGR_13_c_290.2.2.2.2.2.2.1
theorem dX4_wrap_94 : decode cX4_wrap 94 = .ok (.iconst 2, 1) := dGR_13_c_290.2.2.2.2.2.2.2.1
theorem dX4_wrap_95 : decode cX4_wrap 95 = .ok (.invokestatic 170, 3) := dGR_13_c_290.2.2.2.2.2.2.2.2.1
theorem dX4_wrap_98 : decode cX4_wrap 98 = .ok (.aload_n 0, 1) := dGR_13_c_290.2.2.2.2.2.2.2.2.2.1
theorem dX4_wrap_99 : decode cX4_wrap 99 = .ok (.iload_n 2, 1) := dGR_13_c_290.2.2.2.2.2.2.2.2.2.2.1
theorem dX4_wrap_100 : decode cX4_wrap 100 = .ok (.iconst 1, 1) := dGR_13_c_290.2.2.2.2.2.2.2.2.2.2.2
set_option maxRecDepth 100000 in
theorem dGR_13_c_291 : (decode cX4_wrap 101 = .ok (.invokestatic 170, 3)) ∧ (decode cX4_wrap 104 = .ok (.iload 4, 2)) ∧ (decode cX4_wrap 106 = .ok (.iconst 1, 1)) ∧ (decode cX4_wrap 107 = .ok (.iload 5, 2)) ∧ (decode cX4_wrap 109 = .ok (.invokevirtual 176, 3)) ∧ (decode cX4_wrap 112 = .ok (.invokevirtual 133, 3)) ∧ (decode cX4_wrap 115 = .ok (.iinc 5 1, 3)) ∧ (decode cX4_wrap 118 = .ok (.goto (-74), 3)) ∧ (decode cX4_wrap 121 = .ok (.iinc 3 1, 3)) ∧ (decode cX4_wrap 124 = .ok (.goto (-112), 3)) ∧ (decode cX4_wrap 127 = .ok (.return_, 1)) := by decide +kernel
theorem dX4_wrap_101 : decode cX4_wrap 101 = .ok (.invokestatic 170, 3) := dGR_13_c_291.1
theorem dX4_wrap_104 : decode cX4_wrap 104 = .ok (.iload 4, 2) := dGR_13_c_291.2.1
theorem dX4_wrap_106 : decode cX4_wrap 106 = .ok (.iconst 1, 1) := dGR_13_c_291.2.2.1
theorem dX4_wrap_107 : decode cX4_wrap 107 = .ok (.iload 5, 2) := dGR_13_c_291.2.2.2.1
theorem dX4_wrap_109 : decode cX4_wrap 109 = .ok (.invokevirtual 176, 3) := dGR_13_c_291.2.2.2.2.1
theorem dX4_wrap_112 : decode cX4_wrap 112 = .ok (.invokevirtual 133, 3) := dGR_13_c_291.2.2.2.2.2.1
theorem dX4_wrap_115 : decode cX4_wrap 115 = .ok (.iinc 5 1, 3) := dGR_13_c_291.2.2.2.2.2.2.1
theorem dX4_wrap_118 : decode cX4_wrap 118 = .ok (.goto (-74), 3) := dGR_13_c_291.2.2.2.2.2.2.2.1
theorem dX4_wrap_121 : decode cX4_wrap 121 = .ok (.iinc 3 1, 3) := dGR_13_c_291.2.2.2.2.2.2.2.2.1
theorem dX4_wrap_124 : decode cX4_wrap 124 = .ok (.goto (-112), 3) := dGR_13_c_291.2.2.2.2.2.2.2.2.2.1
theorem dX4_wrap_127 : decode cX4_wrap 127 = .ok (.return_, 1) := dGR_13_c_291.2.2.2.2.2.2.2.2.2.2
abbrev f_c_X4_wrap : List (Nat × Int) := [(36, 0), (37, -1), (38, -1), (39, -1), (40, -1), (41, 13), (44, -1), (45, -1)]
set_option maxHeartbeats 4000000 in
set_option maxRecDepth 100000 in
theorem c_X4_wrap (G : KG) (l : Launch) (M : Mem) (c0 : Int) (a1 : Int) (hI_M : Inv false M) (hk_c0 : kd c0 = 41) (hpre : -2147483648 ≤ a1 ∧ a1 ≤ 2147483647 ∧ 0 ≤ a1 ∧ a1 ≤ 575) (hX_M : XX M) : KC false G l yX4_wrap cX4_wrap 6 none (3, 73) [vR G c0, vI a1] M (fun A => kQv false G A (fun (N : Mem) => Inv false N ∧ Fr f_c_X4_wrap M N ∧ XX N)) := by
  refine kx_met (lo := [some (vR G c0), some (vI a1), none, none, none, none]) (by decide) (Nat.le_of_ble_eq_true rfl) rfl ?_
  intro X F hQ
  have hF_M : Fr f_c_X4_wrap M M := Fr.rf _ _
  refine kx_aload_n 1 F 0 dX4_wrap_0 rfl rfl rfl ?_
  refine kx_getr 4 F fl_X4_36 hk_c0 rfl rfl (j := 10) rfl dX4_wrap_1 (v := (M c0 10)) rfl rfl ?_
  have hk_1 : kd (M c0 10) = 26 := Inv.r hI_M hk_c0 rfl 10 rfl rfl
  refine kx_getr 7 F fl_X4_94 hk_1 rfl rfl (j := 2) rfl dX4_wrap_4 (v := (M (M c0 10) 2)) rfl rfl ?_
  have hk_2 : kd (M (M c0 10) 2) = 28 := Inv.r hI_M hk_1 rfl 2 rfl rfl
  refine kx_iload_n 8 F 1 dX4_wrap_7 rfl rfl rfl ?_
  refine kx_iald 9 F hk_2 rfl rfl (by omega) (by decide) dX4_wrap_8 (v := (M (M (M c0 10) 2) a1)) rfl rfl ?_
  have h_3 := Inv.g hI_M hk_2 rfl a1 (a := 0) (b := 1000000000) rfl rfl
  refine kx_istore_n 10 F 2 (lo' := [some (vR G c0), some (vI a1), some (vI (M (M (M c0 10) 2) a1)), none, none, none]) dX4_wrap_9 rfl (by decide) rfl rfl rfl ?_
  refine kx_iconst 11 F dX4_wrap_10 rfl ?_
  refine kx_istore_n 12 F 3 (lo' := [some (vR G c0), some (vI a1), some (vI (M (M (M c0 10) 2) a1)), some (vI 0), none, none]) dX4_wrap_11 rfl (by decide) rfl rfl rfl ?_
  have L_372 : ∀ (n_373 : Nat) (x3_370 : Int) (N_371 : Mem), Inv false N_371 → Fr f_c_X4_wrap M N_371 → XX N_371 → 0 ≤ x3_370 ∧ x3_370 ≤ 2 → (2 - (x3_370)).toNat = n_373 → KJ false G X N_371 12 [some (vR G c0), some (vI a1), some (vI (M (M (M c0 10) 2) a1)), some (vI x3_370), none, none] [] := by
    intro n_373
    refine Nat.strongRecOn n_373 ?_
    intro n_373 ih_374 x3_370 N_371 hI_N_371 hF_N_371 hX_N_371 h_375 hm_376
    refine kx_iload_n 13 F 3 dX4_wrap_12 rfl rfl rfl ?_
    refine kx_aload_n 14 F 0 dX4_wrap_13 rfl rfl rfl ?_
    refine kx_geti 17 F fl_X4_100 hk_c0 rfl rfl (j := 3) rfl dX4_wrap_14 (v := (M c0 3)) (by rw [Fr.e hF_N_371 hk_c0 _ rfl]) rfl ?_
    have h_377 := Inv.g hI_M hk_c0 rfl 3 (a := 0) (b := 2) rfl rfl
    refine kx_icmp_ge 20 F 127 dX4_wrap_17 (by decide) rfl (by omega) (by omega) (fun h_378 => ?_) (fun h_378 => ?_)
    · exact kx_vret F hQ ⟨hI_N_371, hF_N_371, hX_N_371⟩ dX4_wrap_127
    · refine kx_aload_n 21 F 0 dX4_wrap_20 rfl rfl rfl ?_
      refine kx_iconst 22 F dX4_wrap_21 rfl ?_
      refine kx_iload_n 23 F 3 dX4_wrap_22 rfl rfl rfl ?_
      refine kx_iload_n 24 F 2 dX4_wrap_23 rfl rfl rfl ?_
      refine kx_aload_n 25 F 0 dX4_wrap_24 rfl rfl rfl ?_
      refine kx_getr 28 F fl_X4_36 hk_c0 rfl rfl (j := 10) rfl dX4_wrap_25 (v := (M c0 10)) (by rw [Fr.e hF_N_371 hk_c0 _ rfl]) rfl ?_
      refine kx_getr 31 F fl_X4_173 hk_1 rfl rfl (j := 3) rfl dX4_wrap_28 (v := (M (M c0 10) 3)) (by rw [Fr.e hF_N_371 hk_1 _ rfl]) rfl ?_
      have hk_379 : kd (M (M c0 10) 3) = 29 := Inv.r hI_M hk_1 rfl 3 rfl rfl
      refine kx_iload_n 32 F 1 dX4_wrap_31 rfl rfl rfl ?_
      refine kx_iald 33 F hk_379 rfl rfl (by omega) (by decide) dX4_wrap_32 (v := (M (M (M c0 10) 3) a1)) (by rw [Fr.e hF_N_371 hk_379 _ rfl]) rfl ?_
      have h_380 := Inv.g hI_M hk_379 rfl a1 (a := (-2147483648)) (b := 2147483647) rfl rfl
      refine kx_Vi 36 (ci := 0) F (As := [vI 1, vI x3_370, vI (M (M (M c0 10) 2) a1), vI (M (M (M c0 10) 3) a1)]) (st := []) vd_X4_176 (c_X4_codeOf G l N_371 c0 1 x3_370 (M (M (M c0 10) 2) a1) (M (M (M c0 10) 3) a1) hI_N_371 hk_c0 (by omega)) hk_c0 rfl rfl rfl ⟨by decide, by decide⟩ rfl rfl (Nat.le_of_ble_eq_true rfl) dX4_wrap_33 rfl ?_
      intro r_381 N_382 q_383
      obtain ⟨rfl, q_383c⟩ := q_383
      refine kx_istore 38 F 4 (lo' := [some (vR G c0), some (vI a1), some (vI (M (M (M c0 10) 2) a1)), some (vI x3_370), some (vI r_381), none]) dX4_wrap_36 (by decide) rfl rfl rfl ?_
      refine kx_aload_n 39 F 0 dX4_wrap_38 rfl rfl rfl ?_
      refine kx_geti 42 F fl_X4_100 hk_c0 rfl rfl (j := 3) rfl dX4_wrap_39 (v := (M c0 3)) (by rw [Fr.e hF_N_371 hk_c0 _ rfl]) rfl ?_
      refine kx_istore 44 F 5 (lo' := [some (vR G c0), some (vI a1), some (vI (M (M (M c0 10) 2) a1)), some (vI x3_370), some (vI r_381), some (vI (M c0 3))]) dX4_wrap_42 (by decide) rfl rfl rfl ?_
      have L_467 : ∀ (n_468 : Nat) (x5_465 : Int) (N_466 : Mem), Inv false N_466 → Fr f_c_X4_wrap M N_466 → XX N_466 → 1 ≤ x5_465 ∧ x5_465 ≤ 4 ∧ (M c0 3) ≤ x5_465 → (4 - (x5_465)).toNat = n_468 → KJ false G X N_466 44 [some (vR G c0), some (vI a1), some (vI (M (M (M c0 10) 2) a1)), some (vI x3_370), some (vI r_381), some (vI x5_465)] [] := by
        intro n_468
        refine Nat.strongRecOn n_468 ?_
        intro n_468 ih_469 x5_465 N_466 hI_N_466 hF_N_466 hX_N_466 h_470 hm_471
        refine kx_iload 46 F 5 dX4_wrap_44 rfl rfl ?_
        refine kx_aload_n 47 F 0 dX4_wrap_46 rfl rfl rfl ?_
        refine kx_geti 50 F fl_X4_104 hk_c0 rfl rfl (j := 4) rfl dX4_wrap_47 (v := (M c0 4)) (by rw [Fr.e hF_N_466 hk_c0 _ rfl]) rfl ?_
        have h_472 := Inv.g hI_M hk_c0 rfl 4 (a := 0) (b := 4) rfl rfl
        refine kx_icmp_ge 53 F 121 dX4_wrap_50 (by decide) rfl (by omega) (by omega) (fun h_473 => ?_) (fun h_473 => ?_)
        · refine kx_iinc 124 F 3 (v := x3_370 + 1) (lo' := [some (vR G c0), some (vI a1), some (vI (M (M (M c0 10) 2) a1)), some (vI (x3_370 + 1)), some (vI r_381), some (vI x5_465)]) dX4_wrap_121 rfl (by omega) (by decide) rfl rfl rfl ?_
          refine kx_goto 12 F dX4_wrap_124 (by decide) ?_
          refine kx_drop 4 (lo' := [some (vR G c0), some (vI a1), some (vI (M (M (M c0 10) 2) a1)), some (vI (x3_370 + 1)), none, some (vI x5_465)]) rfl ?_
          refine kx_drop 5 (lo' := [some (vR G c0), some (vI a1), some (vI (M (M (M c0 10) 2) a1)), some (vI (x3_370 + 1)), none, none]) rfl ?_
          exact ih_374 _ (by omega) (x3_370 + 1) N_466 hI_N_466 hF_N_466 hX_N_466 (by omega) rfl
        · refine kx_aload_n 54 F 0 dX4_wrap_53 rfl rfl rfl ?_
          refine kx_aload_n 55 F 0 dX4_wrap_54 rfl rfl rfl ?_
          refine kx_getr 58 F fl_X4_40 hk_c0 rfl rfl (j := 11) rfl dX4_wrap_55 (v := (M c0 11)) (by rw [Fr.e hF_N_466 hk_c0 _ rfl]) rfl ?_
          have hk_474 : kd (M c0 11) = 36 := Inv.r hI_M hk_c0 rfl 11 rfl rfl
          refine kx_aload_n 59 F 0 dX4_wrap_58 rfl rfl rfl ?_
          refine kx_getr 62 F fl_X4_25 hk_c0 rfl rfl (j := 7) rfl dX4_wrap_59 (v := (M c0 7)) (by rw [Fr.e hF_N_466 hk_c0 _ rfl]) rfl ?_
          have hk_475 : kd (M c0 7) = 1 := Inv.r hI_M hk_c0 rfl 7 rfl rfl
          refine kx_iload_n 63 F 3 dX4_wrap_62 rfl rfl rfl ?_
          refine kx_iload 65 F 5 dX4_wrap_63 rfl rfl ?_
          refine kx_iconst 66 F dX4_wrap_65 rfl ?_
          refine kx_iload_n 67 F 1 dX4_wrap_66 rfl rfl rfl ?_
          refine kx_bipush 69 F dX4_wrap_67 (by decide) rfl ?_
          refine kx_idiv 70 F (v := (a1 / 64)) dX4_wrap_69 (by omega) (by decide) rfl rfl ?_
          refine kx_ishl 71 F (v := (zshl 1 (a1 / 64))) dX4_wrap_70 rfl rfl ?_
          have h_476 := zshl_1 (b := (a1 / 64)) 8 (by decide) (by omega)
          refine kx_Vi 74 (ci := 0) F (As := [vI x3_370, vI x5_465, vI (zshl 1 (a1 / 64))]) (st := [vR G (M c0 11), vR G c0]) vd_X4_180 (c_X0_over G l N_466 (M c0 7) x3_370 x5_465 (zshl 1 (a1 / 64)) hI_N_466 hk_475 (by omega)) hk_475 rfl rfl rfl ⟨by decide, by decide⟩ rfl rfl (Nat.le_of_ble_eq_true rfl) dX4_wrap_71 rfl ?_
          intro r_477 N_478 q_479
          obtain ⟨rfl, q_479c⟩ := q_479
          refine kx_aload_n 75 F 0 dX4_wrap_74 rfl rfl rfl ?_
          refine kx_getr 78 F fl_X4_28 hk_c0 rfl rfl (j := 8) rfl dX4_wrap_75 (v := (M c0 8)) (by rw [Fr.e hF_N_466 hk_c0 _ rfl]) rfl ?_
          have hk_480 : kd (M c0 8) = 1 := Inv.r hI_M hk_c0 rfl 8 rfl rfl
          refine kx_iload_n 79 F 3 dX4_wrap_78 rfl rfl rfl ?_
          refine kx_iload 81 F 5 dX4_wrap_79 rfl rfl ?_
          refine kx_aload_n 82 F 0 dX4_wrap_81 rfl rfl rfl ?_
          refine kx_getr 85 F fl_X4_46 hk_c0 rfl rfl (j := 14) rfl dX4_wrap_82 (v := (M c0 14)) (by rw [Fr.e hF_N_466 hk_c0 _ rfl]) rfl ?_
          have hk_481 : kd (M c0 14) = 44 := Inv.r hI_M hk_c0 rfl 14 rfl rfl
          refine kx_iload_n 86 F 1 dX4_wrap_85 rfl rfl rfl ?_
          refine kx_bipush 88 F dX4_wrap_86 (by decide) rfl ?_
          refine kx_irem 89 F (v := (a1 % 64)) dX4_wrap_88 (by omega) (by decide) rfl rfl ?_
          refine kx_iald 90 F hk_481 rfl rfl (by omega) (by decide) dX4_wrap_89 (v := (N_466 (M c0 14) (a1 % 64))) rfl rfl ?_
          have h_482 := Inv.g hI_N_466 hk_481 rfl (a1 % 64) (a := 0) (b := 511) rfl rfl
          refine kx_Vi 93 (ci := 0) F (As := [vI x3_370, vI x5_465, vI (N_466 (M c0 14) (a1 % 64))]) (st := [vI r_477, vR G (M c0 11), vR G c0]) vd_X4_180 (c_X0_over G l N_466 (M c0 8) x3_370 x5_465 (N_466 (M c0 14) (a1 % 64)) hI_N_466 hk_480 (by omega)) hk_480 rfl rfl rfl ⟨by decide, by decide⟩ rfl rfl (Nat.le_of_ble_eq_true rfl) dX4_wrap_90 rfl ?_
          intro r_483 N_484 q_485
          obtain ⟨rfl, q_485c⟩ := q_485
          refine kx_iload_n 94 F 2 dX4_wrap_93 rfl rfl rfl ?_
          refine kx_iconst 95 F dX4_wrap_94 rfl ?_
          refine kx_Si 98 F (As := [vI (M (M (M c0 10) 2) a1), vI 2]) (st := [vI r_483, vI r_477, vR G (M c0 11), vR G c0]) sd_X4_170 (c_X4_lengthOf G l N_466 (M (M (M c0 10) 2) a1) 2 hI_N_466 (by omega)) ⟨by decide, by decide⟩ rfl rfl (Nat.le_of_ble_eq_true rfl) dX4_wrap_95 rfl ?_
          intro r_486 N_487 q_488
          obtain ⟨rfl, q_488c⟩ := q_488
          refine kx_aload_n 99 F 0 dX4_wrap_98 rfl rfl rfl ?_
          refine kx_iload_n 100 F 2 dX4_wrap_99 rfl rfl rfl ?_
          refine kx_iconst 101 F dX4_wrap_100 rfl ?_
          refine kx_Si 104 F (As := [vI (M (M (M c0 10) 2) a1), vI 1]) (st := [vR G c0, vI r_486, vI r_483, vI r_477, vR G (M c0 11), vR G c0]) sd_X4_170 (c_X4_lengthOf G l N_466 (M (M (M c0 10) 2) a1) 1 hI_N_466 (by omega)) ⟨by decide, by decide⟩ rfl rfl (Nat.le_of_ble_eq_true rfl) dX4_wrap_101 rfl ?_
          intro r_489 N_490 q_491
          obtain ⟨rfl, q_491c⟩ := q_491
          refine kx_iload 106 F 4 dX4_wrap_104 rfl rfl ?_
          refine kx_iconst 107 F dX4_wrap_106 rfl ?_
          refine kx_iload 109 F 5 dX4_wrap_107 rfl rfl ?_
          refine kx_Vi 112 (ci := 0) F (As := [vI r_489, vI r_381, vI 1, vI x5_465]) (st := [vI r_486, vI r_483, vI r_477, vR G (M c0 11), vR G c0]) vd_X4_176 (c_X4_codeOf G l N_466 c0 r_489 r_381 1 x5_465 hI_N_466 hk_c0 (by omega)) hk_c0 rfl rfl rfl ⟨by decide, by decide⟩ rfl rfl (Nat.le_of_ble_eq_true rfl) dX4_wrap_109 rfl ?_
          intro r_492 N_493 q_494
          obtain ⟨rfl, q_494c⟩ := q_494
          refine kx_Vv 115 (ci := 0) F (As := [vR G (M c0 11), vI r_477, vI r_483, vI r_486, vI r_492]) (st := []) vd_X4_133 (c_X4_offerAllC G l N_466 c0 (M c0 11) r_477 r_483 r_486 r_492 hI_N_466 hk_c0 hk_474 (by omega) hX_N_466) hk_c0 rfl rfl rfl ⟨by decide, by decide⟩ rfl rfl (Nat.le_of_ble_eq_true rfl) dX4_wrap_112 rfl ?_
          intro N_495 q_496
          obtain ⟨hI_N_495, hG_N_495, hX_N_495⟩ := q_496
          have hF_N_495 : Fr f_c_X4_wrap M N_495 := Fr.c hF_N_466 hG_N_495 rfl
          refine kx_iinc 118 F 5 (v := x5_465 + 1) (lo' := [some (vR G c0), some (vI a1), some (vI (M (M (M c0 10) 2) a1)), some (vI x3_370), some (vI r_381), some (vI (x5_465 + 1))]) dX4_wrap_115 rfl (by omega) (by decide) rfl rfl rfl ?_
          refine kx_goto 44 F dX4_wrap_118 (by decide) ?_
          exact ih_469 _ (by omega) (x5_465 + 1) N_495 hI_N_495 hF_N_495 hX_N_495 (by omega) rfl
      exact L_467 _ (M c0 3) N_371 hI_N_371 hF_N_371 hX_N_371 (by omega) rfl
  exact L_372 _ 0 M hI_M hF_M hX_M (by omega) rfl
set_option maxRecDepth 100000 in
theorem dGR_13_c_292 : (decode cX4_closeBlocks 0 = .ok (.iconst 0, 1)) ∧ (decode cX4_closeBlocks 1 = .ok (.istore_n 2, 1)) ∧ (decode cX4_closeBlocks 2 = .ok (.iload_n 2, 1)) ∧ (decode cX4_closeBlocks 3 = .ok (.aload_n 0, 1)) ∧ (decode cX4_closeBlocks 4 = .ok (.getfield 40, 3)) ∧ (decode cX4_closeBlocks 7 = .ok (.getfield 150, 3)) ∧ (decode cX4_closeBlocks 10 = .ok (.if_icmp .ge 94, 3)) ∧ (decode cX4_closeBlocks 13 = .ok (.aload_n 0, 1)) ∧ (decode cX4_closeBlocks 14 = .ok (.getfield 40, 3)) ∧ (decode cX4_closeBlocks 17 = .ok (.getfield 153, 3)) ∧ (decode cX4_closeBlocks 20 = .ok (.iload_n 2, 1)) ∧ (decode cX4_closeBlocks 21 = .ok (.iaload, 1)) := by decide +kernel
theorem dX4_closeBlocks_0 : decode cX4_closeBlocks 0 = .ok (.iconst 0, 1) := dGR_13_c_292.1
theorem dX4_closeBlocks_1 : decode cX4_closeBlocks 1 = .ok (.istore_n 2, 1) := dGR_13_c_292.2.1
theorem dX4_closeBlocks_2 : decode cX4_closeBlocks 2 = .ok (.iload_n 2, 1) := dGR_13_c_292.2.2.1
theorem dX4_closeBlocks_3 : decode cX4_closeBlocks 3 = .ok (.aload_n 0, 1) := dGR_13_c_292.2.2.2.1
theorem dX4_closeBlocks_4 : decode cX4_closeBlocks 4 = .ok (.getfield 40, 3) := dGR_13_c_292.2.2.2.2.1
theorem dX4_closeBlocks_7 : decode cX4_closeBlocks 7 = .ok (.getfield 150, 3) := dGR_13_c_292.2.2.2.2.2.1
theorem dX4_closeBlocks_10 : decode cX4_closeBlocks 10 = .ok (.if_icmp .ge 94, 3) := dGR_13_c_292.2.2.2.2.2.2.1
theorem dX4_closeBlocks_13 : decode cX4_closeBlocks 13 = .ok (.aload_n 0, 1) := dGR_13_c_292.2.2.2.2.2.2.2.1
theorem dX4_closeBlocks_14 : decode cX4_closeBlocks 14 = .ok (.getfield 40, 3) := dGR_13_c_292.2.2.2.2.2.2.2.2.1
theorem dX4_closeBlocks_17 : decode cX4_closeBlocks 17 = .ok (.getfield 153, 3) := dGR_13_c_292.2.2.2.2.2.2.2.2.2.1
theorem dX4_closeBlocks_20 : decode cX4_closeBlocks 20 = .ok (.iload_n 2, 1) := dGR_13_c_292.2.2.2.2.2.2.2.2.2.2.1
theorem dX4_closeBlocks_21 : decode cX4_closeBlocks 21 = .ok (.iaload, 1) := dGR_13_c_292.2.2.2.2.2.2.2.2.2.2.2
set_option maxRecDepth 100000 in
theorem dGR_13_c_293 : (decode cX4_closeBlocks 22 = .ok (.istore_n 3, 1)) ∧ (decode cX4_closeBlocks 23 = .ok (.aload_n 0, 1)) ∧ (decode cX4_closeBlocks 24 = .ok (.getfield 40, 3)) ∧ (decode cX4_closeBlocks 27 = .ok (.iload_n 3, 1)) ∧ (decode cX4_closeBlocks 28 = .ok (.iload_n 1, 1)) ∧ (decode cX4_closeBlocks 29 = .ok (.invokevirtual 156, 3)) ∧ (decode cX4_closeBlocks 32 = .ok (.ifCond .ne 6, 3)) ∧ (decode cX4_closeBlocks 35 = .ok (.goto 63, 3)) ∧ (decode cX4_closeBlocks 38 = .ok (.aload_n 0, 1)) ∧ (decode cX4_closeBlocks 39 = .ok (.getfield 36, 3)) ∧ (decode cX4_closeBlocks 42 = .ok (.getfield 150, 3)) ∧ (decode cX4_closeBlocks 45 = .ok (.istore 4, 2)) := by decide +kernel
theorem dX4_closeBlocks_22 : decode cX4_closeBlocks 22 = .ok (.istore_n 3, 1) := dGR_13_c_293.1
theorem dX4_closeBlocks_23 : decode cX4_closeBlocks 23 = .ok (.aload_n 0, 1) := dGR_13_c_293.2.1
theorem dX4_closeBlocks_24 : decode cX4_closeBlocks 24 = .ok (.getfield 40, 3) := dGR_13_c_293.2.2.1
theorem dX4_closeBlocks_27 : decode cX4_closeBlocks 27 = .ok (.iload_n 3, 1) := dGR_13_c_293.2.2.2.1
theorem dX4_closeBlocks_28 : decode cX4_closeBlocks 28 = .ok (.iload_n 1, 1) := dGR_13_c_293.2.2.2.2.1
theorem dX4_closeBlocks_29 : decode cX4_closeBlocks 29 = .ok (.invokevirtual 156, 3) := dGR_13_c_293.2.2.2.2.2.1
theorem dX4_closeBlocks_32 : decode cX4_closeBlocks 32 = .ok (.ifCond .ne 6, 3) := dGR_13_c_293.2.2.2.2.2.2.1
theorem dX4_closeBlocks_35 : decode cX4_closeBlocks 35 = .ok (.goto 63, 3) := dGR_13_c_293.2.2.2.2.2.2.2.1
theorem dX4_closeBlocks_38 : decode cX4_closeBlocks 38 = .ok (.aload_n 0, 1) := dGR_13_c_293.2.2.2.2.2.2.2.2.1
theorem dX4_closeBlocks_39 : decode cX4_closeBlocks 39 = .ok (.getfield 36, 3) := dGR_13_c_293.2.2.2.2.2.2.2.2.2.1
theorem dX4_closeBlocks_42 : decode cX4_closeBlocks 42 = .ok (.getfield 150, 3) := dGR_13_c_293.2.2.2.2.2.2.2.2.2.2.1
theorem dX4_closeBlocks_45 : decode cX4_closeBlocks 45 = .ok (.istore 4, 2) := dGR_13_c_293.2.2.2.2.2.2.2.2.2.2.2
set_option maxRecDepth 100000 in
theorem dGR_13_c_294 : (decode cX4_closeBlocks 47 = .ok (.iconst 0, 1)) ∧ (decode cX4_closeBlocks 48 = .ok (.istore 5, 2)) ∧ (decode cX4_closeBlocks 50 = .ok (.iload 5, 2)) ∧ (decode cX4_closeBlocks 52 = .ok (.iload 4, 2)) ∧ (decode cX4_closeBlocks 54 = .ok (.if_icmp .ge 44, 3)) ∧ (decode cX4_closeBlocks 57 = .ok (.aload_n 0, 1)) ∧ (decode cX4_closeBlocks 58 = .ok (.getfield 36, 3)) ∧ (decode cX4_closeBlocks 61 = .ok (.aload_n 0, 1)) ∧ (decode cX4_closeBlocks 62 = .ok (.getfield 36, 3)) ∧ (decode cX4_closeBlocks 65 = .ok (.getfield 153, 3)) ∧ (decode cX4_closeBlocks 68 = .ok (.iload 5, 2)) ∧ (decode cX4_closeBlocks 70 = .ok (.iaload, 1)) := by decide +kernel
theorem dX4_closeBlocks_47 : decode cX4_closeBlocks 47 = .ok (.iconst 0, 1) := dGR_13_c_294.1
theorem dX4_closeBlocks_48 : decode cX4_closeBlocks 48 = .ok (.istore 5, 2) := dGR_13_c_294.2.1
theorem dX4_closeBlocks_50 : decode cX4_closeBlocks 50 = .ok (.iload 5, 2) := dGR_13_c_294.2.2.1
theorem dX4_closeBlocks_52 : decode cX4_closeBlocks 52 = .ok (.iload 4, 2) := dGR_13_c_294.2.2.2.1
theorem dX4_closeBlocks_54 : decode cX4_closeBlocks 54 = .ok (.if_icmp .ge 44, 3) := dGR_13_c_294.2.2.2.2.1
theorem dX4_closeBlocks_57 : decode cX4_closeBlocks 57 = .ok (.aload_n 0, 1) := dGR_13_c_294.2.2.2.2.2.1
theorem dX4_closeBlocks_58 : decode cX4_closeBlocks 58 = .ok (.getfield 36, 3) := dGR_13_c_294.2.2.2.2.2.2.1
theorem dX4_closeBlocks_61 : decode cX4_closeBlocks 61 = .ok (.aload_n 0, 1) := dGR_13_c_294.2.2.2.2.2.2.2.1
theorem dX4_closeBlocks_62 : decode cX4_closeBlocks 62 = .ok (.getfield 36, 3) := dGR_13_c_294.2.2.2.2.2.2.2.2.1
theorem dX4_closeBlocks_65 : decode cX4_closeBlocks 65 = .ok (.getfield 153, 3) := dGR_13_c_294.2.2.2.2.2.2.2.2.2.1
theorem dX4_closeBlocks_68 : decode cX4_closeBlocks 68 = .ok (.iload 5, 2) := dGR_13_c_294.2.2.2.2.2.2.2.2.2.2.1
theorem dX4_closeBlocks_70 : decode cX4_closeBlocks 70 = .ok (.iaload, 1) := dGR_13_c_294.2.2.2.2.2.2.2.2.2.2.2
set_option maxRecDepth 100000 in
theorem dGR_13_c_295 : (decode cX4_closeBlocks 71 = .ok (.invokevirtual 90, 3)) ∧ (decode cX4_closeBlocks 74 = .ok (.ifCond .eq 18, 3)) ∧ (decode cX4_closeBlocks 77 = .ok (.aload_n 0, 1)) ∧ (decode cX4_closeBlocks 78 = .ok (.aload_n 0, 1)) ∧ (decode cX4_closeBlocks 79 = .ok (.getfield 36, 3)) ∧ (decode cX4_closeBlocks 82 = .ok (.getfield 153, 3)) ∧ (decode cX4_closeBlocks 85 = .ok (.iload 5, 2)) ∧ (decode cX4_closeBlocks 87 = .ok (.iaload, 1)) ∧ (decode cX4_closeBlocks 88 = .ok (.iload_n 3, 1)) ∧ (decode cX4_closeBlocks 89 = .ok (.invokevirtual 160, 3)) ∧ (decode cX4_closeBlocks 92 = .ok (.iinc 5 1, 3)) ∧ (decode cX4_closeBlocks 95 = .ok (.goto (-45), 3)) := by decide +kernel
theorem dX4_closeBlocks_71 : decode cX4_closeBlocks 71 = .ok (.invokevirtual 90, 3) := dGR_13_c_295.1
theorem dX4_closeBlocks_74 : decode cX4_closeBlocks 74 = .ok (.ifCond .eq 18, 3) := dGR_13_c_295.2.1
theorem dX4_closeBlocks_77 : decode cX4_closeBlocks 77 = .ok (.aload_n 0, 1) := dGR_13_c_295.2.2.1
theorem dX4_closeBlocks_78 : decode cX4_closeBlocks 78 = .ok (.aload_n 0, 1) := dGR_13_c_295.2.2.2.1
theorem dX4_closeBlocks_79 : decode cX4_closeBlocks 79 = .ok (.getfield 36, 3) := dGR_13_c_295.2.2.2.2.1
theorem dX4_closeBlocks_82 : decode cX4_closeBlocks 82 = .ok (.getfield 153, 3) := dGR_13_c_295.2.2.2.2.2.1
theorem dX4_closeBlocks_85 : decode cX4_closeBlocks 85 = .ok (.iload 5, 2) := dGR_13_c_295.2.2.2.2.2.2.1
theorem dX4_closeBlocks_87 : decode cX4_closeBlocks 87 = .ok (.iaload, 1) := dGR_13_c_295.2.2.2.2.2.2.2.1
theorem dX4_closeBlocks_88 : decode cX4_closeBlocks 88 = .ok (.iload_n 3, 1) := dGR_13_c_295.2.2.2.2.2.2.2.2.1
theorem dX4_closeBlocks_89 : decode cX4_closeBlocks 89 = .ok (.invokevirtual 160, 3) := dGR_13_c_295.2.2.2.2.2.2.2.2.2.1
theorem dX4_closeBlocks_92 : decode cX4_closeBlocks 92 = .ok (.iinc 5 1, 3) := dGR_13_c_295.2.2.2.2.2.2.2.2.2.2.1
theorem dX4_closeBlocks_95 : decode cX4_closeBlocks 95 = .ok (.goto (-45), 3) := dGR_13_c_295.2.2.2.2.2.2.2.2.2.2.2
set_option maxRecDepth 100000 in
theorem dGR_13_c_296 : (decode cX4_closeBlocks 98 = .ok (.iinc 2 1, 3)) ∧ (decode cX4_closeBlocks 101 = .ok (.goto (-99), 3)) ∧ (decode cX4_closeBlocks 104 = .ok (.return_, 1)) := by decide +kernel
theorem dX4_closeBlocks_98 : decode cX4_closeBlocks 98 = .ok (.iinc 2 1, 3) := dGR_13_c_296.1
theorem dX4_closeBlocks_101 : decode cX4_closeBlocks 101 = .ok (.goto (-99), 3) := dGR_13_c_296.2.1
theorem dX4_closeBlocks_104 : decode cX4_closeBlocks 104 = .ok (.return_, 1) := dGR_13_c_296.2.2
abbrev f_c_X4_closeBlocks : List (Nat × Int) := [(26, 0), (27, -1), (28, -1), (29, -1), (30, -1), (40, -1), (41, 13), (44, -1), (45, -1)]
set_option maxHeartbeats 4000000 in
set_option maxRecDepth 100000 in
theorem c_X4_closeBlocks (G : KG) (l : Launch) (M : Mem) (c0 : Int) (a1 : Int) (hI_M : Inv false M) (hk_c0 : kd c0 = 41) (hpre : -2147483648 ≤ a1 ∧ a1 ≤ 2147483647) (hX_M : XX M) : KC false G l yX4_closeBlocks cX4_closeBlocks 6 none (3, 71) [vR G c0, vI a1] M (fun A => kQv false G A (fun (N : Mem) => Inv false N ∧ Fr f_c_X4_closeBlocks M N ∧ XX N)) := by
  refine kx_met (lo := [some (vR G c0), some (vI a1), none, none, none, none]) (by decide) (Nat.le_of_ble_eq_true rfl) rfl ?_
  intro X F hQ
  have hF_M : Fr f_c_X4_closeBlocks M M := Fr.rf _ _
  refine kx_iconst 1 F dX4_closeBlocks_0 rfl ?_
  refine kx_istore_n 2 F 2 (lo' := [some (vR G c0), some (vI a1), some (vI 0), none, none, none]) dX4_closeBlocks_1 rfl (by decide) rfl rfl rfl ?_
  have L_801 : ∀ (n_802 : Nat) (x2_799 : Int) (N_800 : Mem), Inv false N_800 → Fr f_c_X4_closeBlocks M N_800 → XX N_800 → 0 ≤ x2_799 ∧ x2_799 ≤ 576 → (576 - (x2_799)).toNat = n_802 → KJ false G X N_800 2 [some (vR G c0), some (vI a1), some (vI x2_799), none, none, none] [] := by
    intro n_802
    refine Nat.strongRecOn n_802 ?_
    intro n_802 ih_803 x2_799 N_800 hI_N_800 hF_N_800 hX_N_800 h_804 hm_805
    refine kx_iload_n 3 F 2 dX4_closeBlocks_2 rfl rfl rfl ?_
    refine kx_aload_n 4 F 0 dX4_closeBlocks_3 rfl rfl rfl ?_
    refine kx_getr 7 F fl_X4_40 hk_c0 rfl rfl (j := 11) rfl dX4_closeBlocks_4 (v := (M c0 11)) (by rw [Fr.e hF_N_800 hk_c0 _ rfl]) rfl ?_
    have hk_806 : kd (M c0 11) = 36 := Inv.r hI_M hk_c0 rfl 11 rfl rfl
    refine kx_geti 10 F fl_X4_150 hk_806 rfl rfl (j := 0) rfl dX4_closeBlocks_7 (v := (M (M c0 11) 0)) (by rw [Fr.e hF_N_800 hk_806 _ rfl]) rfl ?_
    have h_807 := Inv.g hI_M hk_806 rfl 0 (a := 0) (b := 576) rfl rfl
    refine kx_icmp_ge 13 F 104 dX4_closeBlocks_10 (by decide) rfl (by omega) (by omega) (fun h_808 => ?_) (fun h_808 => ?_)
    · exact kx_vret F hQ ⟨hI_N_800, hF_N_800, hX_N_800⟩ dX4_closeBlocks_104
    · refine kx_aload_n 14 F 0 dX4_closeBlocks_13 rfl rfl rfl ?_
      refine kx_getr 17 F fl_X4_40 hk_c0 rfl rfl (j := 11) rfl dX4_closeBlocks_14 (v := (M c0 11)) (by rw [Fr.e hF_N_800 hk_c0 _ rfl]) rfl ?_
      refine kx_getr 20 F fl_X4_153 hk_806 rfl rfl (j := 1) rfl dX4_closeBlocks_17 (v := (M (M c0 11) 1)) (by rw [Fr.e hF_N_800 hk_806 _ rfl]) rfl ?_
      have hk_809 : kd (M (M c0 11) 1) = 37 := Inv.r hI_M hk_806 rfl 1 rfl rfl
      refine kx_iload_n 21 F 2 dX4_closeBlocks_20 rfl rfl rfl ?_
      refine kx_iald 22 F hk_809 rfl rfl (by omega) (by decide) dX4_closeBlocks_21 (v := (M (M (M c0 11) 1) x2_799)) (by rw [Fr.e hF_N_800 hk_809 _ rfl]) rfl ?_
      have h_810 := Inv.g hI_M hk_809 rfl x2_799 (a := 0) (b := 575) rfl rfl
      refine kx_istore_n 23 F 3 (lo' := [some (vR G c0), some (vI a1), some (vI x2_799), some (vI (M (M (M c0 11) 1) x2_799)), none, none]) dX4_closeBlocks_22 rfl (by decide) rfl rfl rfl ?_
      refine kx_aload_n 24 F 0 dX4_closeBlocks_23 rfl rfl rfl ?_
      refine kx_getr 27 F fl_X4_40 hk_c0 rfl rfl (j := 11) rfl dX4_closeBlocks_24 (v := (M c0 11)) (by rw [Fr.e hF_N_800 hk_c0 _ rfl]) rfl ?_
      refine kx_iload_n 28 F 3 dX4_closeBlocks_27 rfl rfl rfl ?_
      refine kx_iload_n 29 F 1 dX4_closeBlocks_28 rfl rfl rfl ?_
      refine kx_Vi 32 (ci := 0) F (As := [vI (M (M (M c0 11) 1) x2_799), vI a1]) (st := []) vd_X4_156 (c_X6_closesC G l N_800 (M c0 11) (M (M (M c0 11) 1) x2_799) a1 hI_N_800 hk_806 (by omega) hX_N_800) hk_806 rfl rfl rfl ⟨by decide, by decide⟩ rfl rfl (Nat.le_of_ble_eq_true rfl) dX4_closeBlocks_29 rfl ?_
      intro r_811 N_812 q_813
      obtain ⟨hI_N_812, hG_N_812, q_813c, hX_N_812⟩ := q_813
      have hF_N_812 : Fr f_c_X4_closeBlocks M N_812 := Fr.c hF_N_800 hG_N_812 rfl
      have J_919 : ∀ (N_918 : Mem), Inv false N_918 → Fr f_c_X4_closeBlocks M N_918 → XX N_918 → KJ false G X N_918 98 [some (vR G c0), some (vI a1), some (vI x2_799), none, none, none] [] := by
        intro N_918 hI_N_918 hF_N_918 hX_N_918
        refine kx_iinc 101 F 2 (v := x2_799 + 1) (lo' := [some (vR G c0), some (vI a1), some (vI (x2_799 + 1)), none, none, none]) dX4_closeBlocks_98 rfl (by omega) (by decide) rfl rfl rfl ?_
        refine kx_goto 2 F dX4_closeBlocks_101 (by decide) ?_
        exact ih_803 _ (by omega) (x2_799 + 1) N_918 hI_N_918 hF_N_918 hX_N_918 (by omega) rfl
      refine kx_if_ne 35 F 38 dX4_closeBlocks_32 (by decide) rfl (by omega) (fun h_921 => ?_) (fun h_921 => ?_)
      · refine kx_aload_n 39 F 0 dX4_closeBlocks_38 rfl rfl rfl ?_
        refine kx_getr 42 F fl_X4_36 hk_c0 rfl rfl (j := 10) rfl dX4_closeBlocks_39 (v := (M c0 10)) (by rw [Fr.e hG_N_812 hk_c0 _ rfl, Fr.e hF_N_800 hk_c0 _ rfl]) rfl ?_
        have hk_922 : kd (M c0 10) = 26 := Inv.r hI_M hk_c0 rfl 10 rfl rfl
        refine kx_geti 45 F fl_X4_150 hk_922 rfl rfl (j := 0) rfl dX4_closeBlocks_42 (v := (N_800 (M c0 10) 0)) (by rw [Fr.e hG_N_812 hk_922 _ rfl]) rfl ?_
        have h_923 := Inv.g hI_N_800 hk_922 rfl 0 (a := 0) (b := 576) rfl rfl
        refine kx_istore 47 F 4 (lo' := [some (vR G c0), some (vI a1), some (vI x2_799), some (vI (M (M (M c0 11) 1) x2_799)), some (vI (N_800 (M c0 10) 0)), none]) dX4_closeBlocks_45 (by decide) rfl rfl rfl ?_
        refine kx_iconst 48 F dX4_closeBlocks_47 rfl ?_
        refine kx_istore 50 F 5 (lo' := [some (vR G c0), some (vI a1), some (vI x2_799), some (vI (M (M (M c0 11) 1) x2_799)), some (vI (N_800 (M c0 10) 0)), some (vI 0)]) dX4_closeBlocks_48 (by decide) rfl rfl rfl ?_
        have L_1010 : ∀ (n_1011 : Nat) (x5_1008 : Int) (N_1009 : Mem), Inv false N_1009 → Fr f_c_X4_closeBlocks M N_1009 → XX N_1009 → 0 ≤ x5_1008 ∧ x5_1008 ≤ 576 → (576 - (x5_1008)).toNat = n_1011 → KJ false G X N_1009 50 [some (vR G c0), some (vI a1), some (vI x2_799), some (vI (M (M (M c0 11) 1) x2_799)), some (vI (N_800 (M c0 10) 0)), some (vI x5_1008)] [] := by
          intro n_1011
          refine Nat.strongRecOn n_1011 ?_
          intro n_1011 ih_1012 x5_1008 N_1009 hI_N_1009 hF_N_1009 hX_N_1009 h_1013 hm_1014
          refine kx_iload 52 F 5 dX4_closeBlocks_50 rfl rfl ?_
          refine kx_iload 54 F 4 dX4_closeBlocks_52 rfl rfl ?_
          refine kx_icmp_ge 57 F 98 dX4_closeBlocks_54 (by decide) rfl (by omega) (by omega) (fun h_1015 => ?_) (fun h_1015 => ?_)
          · refine kx_drop 3 (lo' := [some (vR G c0), some (vI a1), some (vI x2_799), none, some (vI (N_800 (M c0 10) 0)), some (vI x5_1008)]) rfl ?_
            refine kx_drop 4 (lo' := [some (vR G c0), some (vI a1), some (vI x2_799), none, none, some (vI x5_1008)]) rfl ?_
            refine kx_drop 5 (lo' := [some (vR G c0), some (vI a1), some (vI x2_799), none, none, none]) rfl ?_
            exact J_919 N_1009 hI_N_1009 hF_N_1009 hX_N_1009
          · refine kx_aload_n 58 F 0 dX4_closeBlocks_57 rfl rfl rfl ?_
            refine kx_getr 61 F fl_X4_36 hk_c0 rfl rfl (j := 10) rfl dX4_closeBlocks_58 (v := (M c0 10)) (by rw [Fr.e hF_N_1009 hk_c0 _ rfl]) rfl ?_
            refine kx_aload_n 62 F 0 dX4_closeBlocks_61 rfl rfl rfl ?_
            refine kx_getr 65 F fl_X4_36 hk_c0 rfl rfl (j := 10) rfl dX4_closeBlocks_62 (v := (M c0 10)) (by rw [Fr.e hF_N_1009 hk_c0 _ rfl]) rfl ?_
            refine kx_getr 68 F fl_X4_153 hk_922 rfl rfl (j := 1) rfl dX4_closeBlocks_65 (v := (M (M c0 10) 1)) (by rw [Fr.e hF_N_1009 hk_922 _ rfl]) rfl ?_
            have hk_1016 : kd (M (M c0 10) 1) = 27 := Inv.r hI_M hk_922 rfl 1 rfl rfl
            refine kx_iload 70 F 5 dX4_closeBlocks_68 rfl rfl ?_
            refine kx_iald 71 F hk_1016 rfl rfl (by omega) (by decide) dX4_closeBlocks_70 (v := (N_1009 (M (M c0 10) 1) x5_1008)) rfl rfl ?_
            have h_1017 := Inv.g hI_N_1009 hk_1016 rfl x5_1008 (a := 0) (b := 575) rfl rfl
            refine kx_Vi 74 (ci := 0) F (As := [vI (N_1009 (M (M c0 10) 1) x5_1008)]) (st := []) vd_X4_90 (c_X6_isClosedA G l N_1009 (M c0 10) (N_1009 (M (M c0 10) 1) x5_1008) hI_N_1009 hk_922 (by omega)) hk_922 rfl rfl rfl ⟨by decide, by decide⟩ rfl rfl (Nat.le_of_ble_eq_true rfl) dX4_closeBlocks_71 rfl ?_
            intro r_1018 N_1019 q_1020
            obtain ⟨rfl, q_1020c⟩ := q_1020
            rcases q_1020c with q_1020c | q_1020c
            · have J_1025 : ∀ (N_1024 : Mem), Inv false N_1024 → Fr f_c_X4_closeBlocks M N_1024 → XX N_1024 → KJ false G X N_1024 92 [some (vR G c0), some (vI a1), some (vI x2_799), some (vI (M (M (M c0 11) 1) x2_799)), some (vI (N_800 (M c0 10) 0)), some (vI x5_1008)] [] := by
                intro N_1024 hI_N_1024 hF_N_1024 hX_N_1024
                refine kx_iinc 95 F 5 (v := x5_1008 + 1) (lo' := [some (vR G c0), some (vI a1), some (vI x2_799), some (vI (M (M (M c0 11) 1) x2_799)), some (vI (N_800 (M c0 10) 0)), some (vI (x5_1008 + 1))]) dX4_closeBlocks_92 rfl (by omega) (by decide) rfl rfl rfl ?_
                refine kx_goto 50 F dX4_closeBlocks_95 (by decide) ?_
                exact ih_1012 _ (by omega) (x5_1008 + 1) N_1024 hI_N_1024 hF_N_1024 hX_N_1024 (by omega) rfl
              refine kx_if_eq 77 F 92 dX4_closeBlocks_74 (by decide) rfl (by omega) (fun h_1027 => (by exfalso; omega)) (fun h_1027 => ?_)
              refine kx_aload_n 78 F 0 dX4_closeBlocks_77 rfl rfl rfl ?_
              refine kx_aload_n 79 F 0 dX4_closeBlocks_78 rfl rfl rfl ?_
              refine kx_getr 82 F fl_X4_36 hk_c0 rfl rfl (j := 10) rfl dX4_closeBlocks_79 (v := (M c0 10)) (by rw [Fr.e hF_N_1009 hk_c0 _ rfl]) rfl ?_
              refine kx_getr 85 F fl_X4_153 hk_922 rfl rfl (j := 1) rfl dX4_closeBlocks_82 (v := (M (M c0 10) 1)) (by rw [Fr.e hF_N_1009 hk_922 _ rfl]) rfl ?_
              refine kx_iload 87 F 5 dX4_closeBlocks_85 rfl rfl ?_
              refine kx_iald 88 F hk_1016 rfl rfl (by omega) (by decide) dX4_closeBlocks_87 (v := (N_1009 (M (M c0 10) 1) x5_1008)) rfl rfl ?_
              refine kx_iload_n 89 F 3 dX4_closeBlocks_88 rfl rfl rfl ?_
              refine kx_Vv 92 (ci := 0) F (As := [vI (N_1009 (M (M c0 10) 1) x5_1008), vI (M (M (M c0 11) 1) x2_799)]) (st := []) vd_X4_160 (c_X4_join G l N_1009 c0 (N_1009 (M (M c0 10) 1) x5_1008) (M (M (M c0 11) 1) x2_799) hI_N_1009 hk_c0 (by omega) hX_N_1009) hk_c0 rfl rfl rfl ⟨by decide, by decide⟩ rfl rfl (Nat.le_of_ble_eq_true rfl) dX4_closeBlocks_89 rfl ?_
              intro N_1028 q_1029
              obtain ⟨hI_N_1028, hG_N_1028, hX_N_1028⟩ := q_1029
              have hF_N_1028 : Fr f_c_X4_closeBlocks M N_1028 := Fr.c hF_N_1009 hG_N_1028 rfl
              exact J_1025 N_1028 hI_N_1028 hF_N_1028 hX_N_1028
            · have J_1032 : ∀ (N_1031 : Mem), Inv false N_1031 → Fr f_c_X4_closeBlocks M N_1031 → XX N_1031 → KJ false G X N_1031 92 [some (vR G c0), some (vI a1), some (vI x2_799), some (vI (M (M (M c0 11) 1) x2_799)), some (vI (N_800 (M c0 10) 0)), some (vI x5_1008)] [] := by
                intro N_1031 hI_N_1031 hF_N_1031 hX_N_1031
                refine kx_iinc 95 F 5 (v := x5_1008 + 1) (lo' := [some (vR G c0), some (vI a1), some (vI x2_799), some (vI (M (M (M c0 11) 1) x2_799)), some (vI (N_800 (M c0 10) 0)), some (vI (x5_1008 + 1))]) dX4_closeBlocks_92 rfl (by omega) (by decide) rfl rfl rfl ?_
                refine kx_goto 50 F dX4_closeBlocks_95 (by decide) ?_
                exact ih_1012 _ (by omega) (x5_1008 + 1) N_1031 hI_N_1031 hF_N_1031 hX_N_1031 (by omega) rfl
              refine kx_if_eq 77 F 92 dX4_closeBlocks_74 (by decide) rfl (by omega) (fun h_1034 => ?_) (fun h_1034 => (by exfalso; omega))
              exact J_1032 N_1009 hI_N_1009 hF_N_1009 hX_N_1009
        exact L_1010 _ 0 N_812 hI_N_812 hF_N_812 hX_N_812 (by omega) rfl
      · refine kx_goto 98 F dX4_closeBlocks_35 (by decide) ?_
        refine kx_drop 3 (lo' := [some (vR G c0), some (vI a1), some (vI x2_799), none, none, none]) rfl ?_
        exact J_919 N_812 hI_N_812 hF_N_812 hX_N_812
  exact L_801 _ 0 M hI_M hF_M hX_M (by omega) rfl
