theorem dX6_offer_0 : decode cX6_offer 0 = .ok (.iload_n 1, 1) := by decide +kernel
theorem dX6_offer_1 : decode cX6_offer 1 = .ok (.ifCond .lt 22, 3) := by decide +kernel
theorem dX6_offer_4 : decode cX6_offer 4 = .ok (.iload_n 1, 1) := by decide +kernel
theorem dX6_offer_5 : decode cX6_offer 5 = .ok (.aload_n 0, 1) := by decide +kernel
theorem dX6_offer_6 : decode cX6_offer 6 = .ok (.getfield 27, 3) := by decide +kernel
theorem dX6_offer_9 : decode cX6_offer 9 = .ok (.arraylength, 1) := by decide +kernel
theorem dX6_offer_10 : decode cX6_offer 10 = .ok (.if_icmp .ge 13, 3) := by decide +kernel
theorem dX6_offer_13 : decode cX6_offer 13 = .ok (.aload_n 0, 1) := by decide +kernel
theorem dX6_offer_14 : decode cX6_offer 14 = .ok (.getfield 27, 3) := by decide +kernel
theorem dX6_offer_17 : decode cX6_offer 17 = .ok (.iload_n 1, 1) := by decide +kernel
theorem dX6_offer_18 : decode cX6_offer 18 = .ok (.iaload, 1) := by decide +kernel
theorem dX6_offer_19 : decode cX6_offer 19 = .ok (.iconst 2, 1) := by decide +kernel
theorem dX6_offer_20 : decode cX6_offer 20 = .ok (.if_icmp .ne 4, 3) := by decide +kernel
theorem dX6_offer_23 : decode cX6_offer 23 = .ok (.return_, 1) := by decide +kernel
theorem dX6_offer_24 : decode cX6_offer 24 = .ok (.aload_n 0, 1) := by decide +kernel
theorem dX6_offer_25 : decode cX6_offer 25 = .ok (.getfield 27, 3) := by decide +kernel
theorem dX6_offer_28 : decode cX6_offer 28 = .ok (.iload_n 1, 1) := by decide +kernel
theorem dX6_offer_29 : decode cX6_offer 29 = .ok (.iaload, 1) := by decide +kernel
theorem dX6_offer_30 : decode cX6_offer 30 = .ok (.ifCond .ne 33, 3) := by decide +kernel
theorem dX6_offer_33 : decode cX6_offer 33 = .ok (.aload_n 0, 1) := by decide +kernel
theorem dX6_offer_34 : decode cX6_offer 34 = .ok (.getfield 27, 3) := by decide +kernel
theorem dX6_offer_37 : decode cX6_offer 37 = .ok (.iload_n 1, 1) := by decide +kernel
theorem dX6_offer_38 : decode cX6_offer 38 = .ok (.iconst 1, 1) := by decide +kernel
theorem dX6_offer_39 : decode cX6_offer 39 = .ok (.iastore, 1) := by decide +kernel
theorem dX6_offer_40 : decode cX6_offer 40 = .ok (.aload_n 0, 1) := by decide +kernel
theorem dX6_offer_41 : decode cX6_offer 41 = .ok (.getfield 15, 3) := by decide +kernel
theorem dX6_offer_44 : decode cX6_offer 44 = .ok (.aload_n 0, 1) := by decide +kernel
theorem dX6_offer_45 : decode cX6_offer 45 = .ok (.getfield 30, 3) := by decide +kernel
theorem dX6_offer_48 : decode cX6_offer 48 = .ok (.iload_n 1, 1) := by decide +kernel
theorem dX6_offer_49 : decode cX6_offer 49 = .ok (.iastore, 1) := by decide +kernel
theorem dX6_offer_50 : decode cX6_offer 50 = .ok (.aload_n 0, 1) := by decide +kernel
theorem dX6_offer_51 : decode cX6_offer 51 = .ok (.dup, 1) := by decide +kernel
theorem dX6_offer_52 : decode cX6_offer 52 = .ok (.getfield 30, 3) := by decide +kernel
theorem dX6_offer_55 : decode cX6_offer 55 = .ok (.iconst 1, 1) := by decide +kernel
theorem dX6_offer_56 : decode cX6_offer 56 = .ok (.iadd, 1) := by decide +kernel
theorem dX6_offer_57 : decode cX6_offer 57 = .ok (.putfield 30, 3) := by decide +kernel
theorem dX6_offer_60 : decode cX6_offer 60 = .ok (.goto 24, 3) := by decide +kernel
theorem dX6_offer_63 : decode cX6_offer 63 = .ok (.iload_n 2, 1) := by decide +kernel
theorem dX6_offer_64 : decode cX6_offer 64 = .ok (.iload_n 3, 1) := by decide +kernel
theorem dX6_offer_65 : decode cX6_offer 65 = .ok (.aload_n 0, 1) := by decide +kernel
theorem dX6_offer_66 : decode cX6_offer 66 = .ok (.getfield 21, 3) := by decide +kernel
theorem dX6_offer_69 : decode cX6_offer 69 = .ok (.iload_n 1, 1) := by decide +kernel
theorem dX6_offer_70 : decode cX6_offer 70 = .ok (.iaload, 1) := by decide +kernel
theorem dX6_offer_71 : decode cX6_offer 71 = .ok (.aload_n 0, 1) := by decide +kernel
theorem dX6_offer_72 : decode cX6_offer 72 = .ok (.getfield 24, 3) := by decide +kernel
theorem dX6_offer_75 : decode cX6_offer 75 = .ok (.iload_n 1, 1) := by decide +kernel
theorem dX6_offer_76 : decode cX6_offer 76 = .ok (.iaload, 1) := by decide +kernel
theorem dX6_offer_77 : decode cX6_offer 77 = .ok (.invokestatic 34, 3) := by decide +kernel
theorem dX6_offer_80 : decode cX6_offer 80 = .ok (.ifCond .ne 4, 3) := by decide +kernel
theorem dX6_offer_83 : decode cX6_offer 83 = .ok (.return_, 1) := by decide +kernel
theorem dX6_offer_84 : decode cX6_offer 84 = .ok (.aload_n 0, 1) := by decide +kernel
theorem dX6_offer_85 : decode cX6_offer 85 = .ok (.getfield 21, 3) := by decide +kernel
theorem dX6_offer_88 : decode cX6_offer 88 = .ok (.iload_n 1, 1) := by decide +kernel
theorem dX6_offer_89 : decode cX6_offer 89 = .ok (.iload_n 2, 1) := by decide +kernel
theorem dX6_offer_90 : decode cX6_offer 90 = .ok (.iastore, 1) := by decide +kernel
theorem dX6_offer_91 : decode cX6_offer 91 = .ok (.aload_n 0, 1) := by decide +kernel
theorem dX6_offer_92 : decode cX6_offer 92 = .ok (.getfield 24, 3) := by decide +kernel
theorem dX6_offer_95 : decode cX6_offer 95 = .ok (.iload_n 1, 1) := by decide +kernel
theorem dX6_offer_96 : decode cX6_offer 96 = .ok (.iload_n 3, 1) := by decide +kernel
theorem dX6_offer_97 : decode cX6_offer 97 = .ok (.iastore, 1) := by decide +kernel
theorem dX6_offer_98 : decode cX6_offer 98 = .ok (.return_, 1) := by decide +kernel
abbrev f_c_X6_offerA : List (Nat × Int) := [(26, 0), (27, -1), (28, -1), (29, -1), (30, -1)]
set_option maxHeartbeats 4000000 in
set_option maxRecDepth 100000 in
theorem c_X6_offerA (G : KG) (l : Launch) (M : Mem) (c0 a1 a2 a3 : Int) (hI_M : Inv false M) (hk_c0 : kd c0 = 26) (hpre : -2147483648 ≤ a1 ∧ a1 ≤ 2147483647 ∧ -2147483648 ≤ a2 ∧ a2 ≤ 2147483647 ∧ -2147483648 ≤ a3 ∧ a3 ≤ 2147483647 ∧ 0 ≤ a2 ∧ a2 ≤ 1000000000) (hX_M : XX M) : KC false G l yX6_offer cX6_offer 4 none (1, 23) [vR G c0, vI a1, vI a2, vI a3] M (fun A => kQv false G A (fun (N : Mem) => Inv false N ∧ Fr f_c_X6_offerA M N ∧ XX N)) := by
  refine kx_met (lo := [some (vR G c0), some (vI a1), some (vI a2), some (vI a3)]) (by decide) (Nat.le_of_ble_eq_true rfl) rfl ?_
  intro X F hQ
  have hF_M : Fr f_c_X6_offerA M M := Fr.rf _ _
  refine kx_iload_n 1 F 1 dX6_offer_0 rfl rfl rfl ?_
  refine kx_if_lt 4 F 23 dX6_offer_1 (by decide) rfl (by omega) (fun h_1 => ?_) (fun h_1 => ?_)
  · exact kx_vret F hQ ⟨hI_M, hF_M, hX_M⟩ dX6_offer_23
  · refine kx_iload_n 5 F 1 dX6_offer_4 rfl rfl rfl ?_
    refine kx_aload_n 6 F 0 dX6_offer_5 rfl rfl rfl ?_
    refine kx_getr 9 F fl_X6_27 hk_c0 rfl rfl (j := 4) rfl dX6_offer_6 (v := (M c0 4)) rfl rfl ?_
    have hk_2 : kd (M c0 4) = 30 := Inv.r hI_M hk_c0 rfl 4 rfl rfl
    refine kx_alen 10 F hk_2 rfl rfl (z := 576) (by decide) dX6_offer_9 rfl ?_
    refine kx_icmp_ge 13 F 23 dX6_offer_10 (by decide) rfl (by omega) (by decide) (fun h_3 => ?_) (fun h_3 => ?_)
    · exact kx_vret F hQ ⟨hI_M, hF_M, hX_M⟩ dX6_offer_23
    · refine kx_aload_n 14 F 0 dX6_offer_13 rfl rfl rfl ?_
      refine kx_getr 17 F fl_X6_27 hk_c0 rfl rfl (j := 4) rfl dX6_offer_14 (v := (M c0 4)) rfl rfl ?_
      refine kx_iload_n 18 F 1 dX6_offer_17 rfl rfl rfl ?_
      refine kx_iald 19 F hk_2 rfl rfl (by omega) (by decide) dX6_offer_18 (v := (M (M c0 4) a1)) rfl rfl ?_
      have h_4 := Inv.g hI_M hk_2 rfl a1 (a := 0) (b := 2) rfl rfl
      refine kx_iconst 20 F dX6_offer_19 rfl ?_
      refine kx_icmp_ne 23 F 24 dX6_offer_20 (by decide) rfl (by omega) (by decide) (fun h_5 => ?_) (fun h_5 => ?_)
      · refine kx_aload_n 25 F 0 dX6_offer_24 rfl rfl rfl ?_
        refine kx_getr 28 F fl_X6_27 hk_c0 rfl rfl (j := 4) rfl dX6_offer_25 (v := (M c0 4)) rfl rfl ?_
        refine kx_iload_n 29 F 1 dX6_offer_28 rfl rfl rfl ?_
        refine kx_iald 30 F hk_2 rfl rfl (by omega) (by decide) dX6_offer_29 (v := (M (M c0 4) a1)) rfl rfl ?_
        refine kx_if_ne 33 F 63 dX6_offer_30 (by decide) rfl (by omega) (fun h_6 => ?_) (fun h_6 => ?_)
        · refine kx_iload_n 64 F 2 dX6_offer_63 rfl rfl rfl ?_
          refine kx_iload_n 65 F 3 dX6_offer_64 rfl rfl rfl ?_
          refine kx_aload_n 66 F 0 dX6_offer_65 rfl rfl rfl ?_
          refine kx_getr 69 F fl_X6_21 hk_c0 rfl rfl (j := 2) rfl dX6_offer_66 (v := (M c0 2)) rfl rfl ?_
          have hk_7 : kd (M c0 2) = 28 := Inv.r hI_M hk_c0 rfl 2 rfl rfl
          refine kx_iload_n 70 F 1 dX6_offer_69 rfl rfl rfl ?_
          refine kx_iald 71 F hk_7 rfl rfl (by omega) (by decide) dX6_offer_70 (v := (M (M c0 2) a1)) rfl rfl ?_
          have h_8 := Inv.g hI_M hk_7 rfl a1 (a := 0) (b := 1000000000) rfl rfl
          refine kx_aload_n 72 F 0 dX6_offer_71 rfl rfl rfl ?_
          refine kx_getr 75 F fl_X6_24 hk_c0 rfl rfl (j := 3) rfl dX6_offer_72 (v := (M c0 3)) rfl rfl ?_
          have hk_9 : kd (M c0 3) = 29 := Inv.r hI_M hk_c0 rfl 3 rfl rfl
          refine kx_iload_n 76 F 1 dX6_offer_75 rfl rfl rfl ?_
          refine kx_iald 77 F hk_9 rfl rfl (by omega) (by decide) dX6_offer_76 (v := (M (M c0 3) a1)) rfl rfl ?_
          have h_10 := Inv.g hI_M hk_9 rfl a1 (a := (-2147483648)) (b := 2147483647) rfl rfl
          refine kx_Si 80 F (As := [vI a2, vI a3, vI (M (M c0 2) a1), vI (M (M c0 3) a1)]) (st := []) sd_X6_34 (c_X6_isBefore G l M a2 a3 (M (M c0 2) a1) (M (M c0 3) a1) hI_M (by omega)) ⟨by decide, by decide⟩ rfl rfl (Nat.le_of_ble_eq_true rfl) dX6_offer_77 rfl ?_
          intro r_11 N_12 q_13
          obtain ⟨rfl, q_13c⟩ := q_13
          refine kx_if_ne 83 F 84 dX6_offer_80 (by decide) rfl (by omega) (fun h_14 => ?_) (fun h_14 => ?_)
          · refine kx_aload_n 85 F 0 dX6_offer_84 rfl rfl rfl ?_
            refine kx_getr 88 F fl_X6_21 hk_c0 rfl rfl (j := 2) rfl dX6_offer_85 (v := (M c0 2)) rfl rfl ?_
            refine kx_iload_n 89 F 1 dX6_offer_88 rfl rfl rfl ?_
            refine kx_iload_n 90 F 2 dX6_offer_89 rfl rfl rfl ?_
            refine kx_iast 91 F hk_7 rfl rfl (by omega) (by decide) dX6_offer_90 rfl ?_
            intro N_15 hM_N_15
            have hI_N_15 : Inv false N_15 := Inv.u hI_M hM_N_15 hk_7 (a := 0) (b := 1000000000) rfl rfl rfl (by omega)
            have hF_N_15 : Fr f_c_X6_offerA M N_15 := Fr.u hF_M hM_N_15 hk_7 rfl
            have hX_N_15 : XX N_15 := XX.st hX_M hI_M hM_N_15 hk_7 rfl
            refine kx_aload_n 92 F 0 dX6_offer_91 rfl rfl rfl ?_
            refine kx_getr 95 F fl_X6_24 hk_c0 rfl rfl (j := 3) rfl dX6_offer_92 (v := (M c0 3)) (by rw [hM_N_15, mu_k hk_c0 hk_7 rfl]) rfl ?_
            refine kx_iload_n 96 F 1 dX6_offer_95 rfl rfl rfl ?_
            refine kx_iload_n 97 F 3 dX6_offer_96 rfl rfl rfl ?_
            refine kx_iast 98 F hk_9 rfl rfl (by omega) (by decide) dX6_offer_97 rfl ?_
            intro N_16 hM_N_16
            have hI_N_16 : Inv false N_16 := Inv.u hI_N_15 hM_N_16 hk_9 (a := (-2147483648)) (b := 2147483647) rfl rfl rfl (by omega)
            have hF_N_16 : Fr f_c_X6_offerA M N_16 := Fr.u hF_N_15 hM_N_16 hk_9 rfl
            have hX_N_16 : XX N_16 := XX.st hX_N_15 hI_N_15 hM_N_16 hk_9 rfl
            exact kx_vret F hQ ⟨hI_N_16, hF_N_16, hX_N_16⟩ dX6_offer_98
          · exact kx_vret F hQ ⟨hI_M, hF_M, hX_M⟩ dX6_offer_83
        · have hk_17 : kd (M c0 1) = 27 := Inv.r hI_M hk_c0 rfl 1 rfl rfl
          have h_18 := Inv.g hI_M hk_c0 rfl 0 (a := 0) (b := 576) rfl rfl
          have h_19 : M c0 0 < 576 := ShOK.lt (hX_M.2.1 c0 hk_c0) (by omega) (fun i => by have := Inv.g hI_M hk_17 rfl i (a := 0) (b := 575) rfl rfl; omega) (m := a1) (by omega) (by omega)
          refine kx_aload_n 34 F 0 dX6_offer_33 rfl rfl rfl ?_
          refine kx_getr 37 F fl_X6_27 hk_c0 rfl rfl (j := 4) rfl dX6_offer_34 (v := (M c0 4)) rfl rfl ?_
          refine kx_iload_n 38 F 1 dX6_offer_37 rfl rfl rfl ?_
          refine kx_iconst 39 F dX6_offer_38 rfl ?_
          refine kx_iast 40 F hk_2 rfl rfl (by omega) (by decide) dX6_offer_39 rfl ?_
          intro N_20 hM_N_20
          have hI_N_20 : Inv false N_20 := Inv.u hI_M hM_N_20 hk_2 (a := 0) (b := 2) rfl rfl rfl (by omega)
          have hF_N_20 : Fr f_c_X6_offerA M N_20 := Fr.u hF_M hM_N_20 hk_2 rfl
          refine kx_aload_n 41 F 0 dX6_offer_40 rfl rfl rfl ?_
          refine kx_getr 44 F fl_X6_15 hk_c0 rfl rfl (j := 1) rfl dX6_offer_41 (v := (M c0 1)) (by rw [hM_N_20, mu_k hk_c0 hk_2 rfl]) rfl ?_
          refine kx_aload_n 45 F 0 dX6_offer_44 rfl rfl rfl ?_
          refine kx_geti 48 F fl_X6_30 hk_c0 rfl rfl (j := 0) rfl dX6_offer_45 (v := (M c0 0)) (by rw [hM_N_20, mu_k hk_c0 hk_2 rfl]) rfl ?_
          refine kx_iload_n 49 F 1 dX6_offer_48 rfl rfl rfl ?_
          refine kx_iast 50 F hk_17 rfl rfl (by omega) (by decide) dX6_offer_49 rfl ?_
          intro N_21 hM_N_21
          have hI_N_21 : Inv false N_21 := Inv.u hI_N_20 hM_N_21 hk_17 (a := 0) (b := 575) rfl rfl rfl (by omega)
          have hF_N_21 : Fr f_c_X6_offerA M N_21 := Fr.u hF_N_20 hM_N_21 hk_17 rfl
          refine kx_aload_n 51 F 0 dX6_offer_50 rfl rfl rfl ?_
          refine kx_dup 52 F dX6_offer_51 rfl rfl ?_
          refine kx_geti 55 F fl_X6_30 hk_c0 rfl rfl (j := 0) rfl dX6_offer_52 (v := (M c0 0)) (by rw [hM_N_21, mu_k hk_c0 hk_17 rfl, hM_N_20, mu_k hk_c0 hk_2 rfl]) rfl ?_
          refine kx_iconst 56 F dX6_offer_55 rfl ?_
          refine kx_iadd 57 F (v := (M c0 0) + 1) dX6_offer_56 rfl rfl ?_
          refine kx_puti 60 F fw_X6_30 rfl hk_c0 rfl rfl (j := 0) rfl dX6_offer_57 rfl ?_
          intro N_22 hM_N_22
          have hI_N_22 : Inv false N_22 := Inv.u hI_N_21 hM_N_22 hk_c0 (a := 0) (b := 576) rfl rfl rfl (by omega)
          have hF_N_22 : Fr f_c_X6_offerA M N_22 := Fr.u hF_N_21 hM_N_22 hk_c0 rfl
          have hs_N_22 : ShOK 576 N_22 c0 := ShOK.ins (hX_M.2.1 c0 hk_c0) (m := a1) (by omega) (by omega) (by rw [hM_N_22, mu_s]) (by rw [hM_N_22, mu_i (by omega), hM_N_21, mu_k hk_c0 hk_17 rfl, hM_N_20, mu_k hk_c0 hk_2 rfl]) (by rw [hM_N_22, mu_i (by omega), hM_N_21, mu_k hk_c0 hk_17 rfl, hM_N_20, mu_k hk_c0 hk_2 rfl]) (fun i => by rw [hM_N_22, mu_k hk_17 hk_c0 rfl, hM_N_21, mu_at, hM_N_20, mu_k hk_17 hk_2 rfl]) (fun i => by rw [hM_N_22, mu_k hk_2 hk_c0 rfl, hM_N_21, mu_k hk_2 hk_17 rfl, hM_N_20, mu_at])
          have hX_N_22 : XX N_22 := XX.shA hX_M hI_M hF_N_22 rfl hk_c0 hs_N_22
          refine kx_goto 84 F dX6_offer_60 (by decide) ?_
          refine kx_aload_n 85 F 0 dX6_offer_84 rfl rfl rfl ?_
          refine kx_getr 88 F fl_X6_21 hk_c0 rfl rfl (j := 2) rfl dX6_offer_85 (v := (M c0 2)) (by rw [hM_N_22, mu_i (by omega), hM_N_21, mu_k hk_c0 hk_17 rfl, hM_N_20, mu_k hk_c0 hk_2 rfl]) rfl ?_
          have hk_23 : kd (M c0 2) = 28 := Inv.r hI_M hk_c0 rfl 2 rfl rfl
          refine kx_iload_n 89 F 1 dX6_offer_88 rfl rfl rfl ?_
          refine kx_iload_n 90 F 2 dX6_offer_89 rfl rfl rfl ?_
          refine kx_iast 91 F hk_23 rfl rfl (by omega) (by decide) dX6_offer_90 rfl ?_
          intro N_24 hM_N_24
          have hI_N_24 : Inv false N_24 := Inv.u hI_N_22 hM_N_24 hk_23 (a := 0) (b := 1000000000) rfl rfl rfl (by omega)
          have hF_N_24 : Fr f_c_X6_offerA M N_24 := Fr.u hF_N_22 hM_N_24 hk_23 rfl
          have hX_N_24 : XX N_24 := XX.st hX_N_22 hI_N_22 hM_N_24 hk_23 rfl
          refine kx_aload_n 92 F 0 dX6_offer_91 rfl rfl rfl ?_
          refine kx_getr 95 F fl_X6_24 hk_c0 rfl rfl (j := 3) rfl dX6_offer_92 (v := (M c0 3)) (by rw [hM_N_24, mu_k hk_c0 hk_23 rfl, hM_N_22, mu_i (by omega), hM_N_21, mu_k hk_c0 hk_17 rfl, hM_N_20, mu_k hk_c0 hk_2 rfl]) rfl ?_
          have hk_25 : kd (M c0 3) = 29 := Inv.r hI_M hk_c0 rfl 3 rfl rfl
          refine kx_iload_n 96 F 1 dX6_offer_95 rfl rfl rfl ?_
          refine kx_iload_n 97 F 3 dX6_offer_96 rfl rfl rfl ?_
          refine kx_iast 98 F hk_25 rfl rfl (by omega) (by decide) dX6_offer_97 rfl ?_
          intro N_26 hM_N_26
          have hI_N_26 : Inv false N_26 := Inv.u hI_N_24 hM_N_26 hk_25 (a := (-2147483648)) (b := 2147483647) rfl rfl rfl (by omega)
          have hF_N_26 : Fr f_c_X6_offerA M N_26 := Fr.u hF_N_24 hM_N_26 hk_25 rfl
          have hX_N_26 : XX N_26 := XX.st hX_N_24 hI_N_24 hM_N_26 hk_25 rfl
          exact kx_vret F hQ ⟨hI_N_26, hF_N_26, hX_N_26⟩ dX6_offer_98
      · exact kx_vret F hQ ⟨hI_M, hF_M, hX_M⟩ dX6_offer_23
theorem dX6_closes_0 : decode cX6_closes 0 = .ok (.aload_n 0, 1) := by decide +kernel
theorem dX6_closes_1 : decode cX6_closes 1 = .ok (.getfield 27, 3) := by decide +kernel
theorem dX6_closes_4 : decode cX6_closes 4 = .ok (.iload_n 1, 1) := by decide +kernel
theorem dX6_closes_5 : decode cX6_closes 5 = .ok (.iaload, 1) := by decide +kernel
theorem dX6_closes_6 : decode cX6_closes 6 = .ok (.iconst 1, 1) := by decide +kernel
theorem dX6_closes_7 : decode cX6_closes 7 = .ok (.if_icmp .ne 13, 3) := by decide +kernel
theorem dX6_closes_10 : decode cX6_closes 10 = .ok (.aload_n 0, 1) := by decide +kernel
theorem dX6_closes_11 : decode cX6_closes 11 = .ok (.getfield 21, 3) := by decide +kernel
theorem dX6_closes_14 : decode cX6_closes 14 = .ok (.iload_n 1, 1) := by decide +kernel
theorem dX6_closes_15 : decode cX6_closes 15 = .ok (.iaload, 1) := by decide +kernel
theorem dX6_closes_16 : decode cX6_closes 16 = .ok (.iload_n 2, 1) := by decide +kernel
theorem dX6_closes_17 : decode cX6_closes 17 = .ok (.if_icmp .eq 5, 3) := by decide +kernel
theorem dX6_closes_20 : decode cX6_closes 20 = .ok (.iconst 0, 1) := by decide +kernel
theorem dX6_closes_21 : decode cX6_closes 21 = .ok (.ireturn, 1) := by decide +kernel
theorem dX6_closes_22 : decode cX6_closes 22 = .ok (.aload_n 0, 1) := by decide +kernel
theorem dX6_closes_23 : decode cX6_closes 23 = .ok (.getfield 27, 3) := by decide +kernel
theorem dX6_closes_26 : decode cX6_closes 26 = .ok (.iload_n 1, 1) := by decide +kernel
theorem dX6_closes_27 : decode cX6_closes 27 = .ok (.iconst 2, 1) := by decide +kernel
theorem dX6_closes_28 : decode cX6_closes 28 = .ok (.iastore, 1) := by decide +kernel
theorem dX6_closes_29 : decode cX6_closes 29 = .ok (.iconst 1, 1) := by decide +kernel
theorem dX6_closes_30 : decode cX6_closes 30 = .ok (.ireturn, 1) := by decide +kernel
abbrev f_c_X6_closesA : List (Nat × Int) := [(30, -1)]
set_option maxHeartbeats 4000000 in
set_option maxRecDepth 100000 in
theorem c_X6_closesA (G : KG) (l : Launch) (M : Mem) (c0 a1 a2 : Int) (hI_M : Inv false M) (hk_c0 : kd c0 = 26) (hpre : -2147483648 ≤ a1 ∧ a1 ≤ 2147483647 ∧ -2147483648 ≤ a2 ∧ a2 ≤ 2147483647 ∧ 0 ≤ a1 ∧ a1 ≤ 575) (hX_M : XX M) : KC false G l yX6_closes cX6_closes 3 (some .boolean) (0, 0) [vR G c0, vI a1, vI a2] M (fun A => kQi false G A (fun (r : Int) (N : Mem) => Inv false N ∧ Fr f_c_X6_closesA M N ∧ (0 ≤ r ∧ r ≤ 1) ∧ XX N)) := by
  refine kx_met (lo := [some (vR G c0), some (vI a1), some (vI a2)]) (by decide) (Nat.le_of_ble_eq_true rfl) rfl ?_
  intro X F hQ
  have hF_M : Fr f_c_X6_closesA M M := Fr.rf _ _
  refine kx_aload_n 1 F 0 dX6_closes_0 rfl rfl rfl ?_
  refine kx_getr 4 F fl_X6_27 hk_c0 rfl rfl (j := 4) rfl dX6_closes_1 (v := (M c0 4)) rfl rfl ?_
  have hk_1 : kd (M c0 4) = 30 := Inv.r hI_M hk_c0 rfl 4 rfl rfl
  refine kx_iload_n 5 F 1 dX6_closes_4 rfl rfl rfl ?_
  refine kx_iald 6 F hk_1 rfl rfl (by omega) (by decide) dX6_closes_5 (v := (M (M c0 4) a1)) rfl rfl ?_
  have h_2 := Inv.g hI_M hk_1 rfl a1 (a := 0) (b := 2) rfl rfl
  refine kx_iconst 7 F dX6_closes_6 rfl ?_
  refine kx_icmp_ne 10 F 20 dX6_closes_7 (by decide) rfl (by omega) (by decide) (fun h_3 => ?_) (fun h_3 => ?_)
  · refine kx_iconst 21 F dX6_closes_20 rfl ?_
    exact kx_zret F hQ (by omega) ⟨hI_M, hF_M, (by omega), hX_M⟩ dX6_closes_21
  · refine kx_aload_n 11 F 0 dX6_closes_10 rfl rfl rfl ?_
    refine kx_getr 14 F fl_X6_21 hk_c0 rfl rfl (j := 2) rfl dX6_closes_11 (v := (M c0 2)) rfl rfl ?_
    have hk_4 : kd (M c0 2) = 28 := Inv.r hI_M hk_c0 rfl 2 rfl rfl
    refine kx_iload_n 15 F 1 dX6_closes_14 rfl rfl rfl ?_
    refine kx_iald 16 F hk_4 rfl rfl (by omega) (by decide) dX6_closes_15 (v := (M (M c0 2) a1)) rfl rfl ?_
    have h_5 := Inv.g hI_M hk_4 rfl a1 (a := 0) (b := 1000000000) rfl rfl
    refine kx_iload_n 17 F 2 dX6_closes_16 rfl rfl rfl ?_
    refine kx_icmp_eq 20 F 22 dX6_closes_17 (by decide) rfl (by omega) (by omega) (fun h_6 => ?_) (fun h_6 => ?_)
    · refine kx_aload_n 23 F 0 dX6_closes_22 rfl rfl rfl ?_
      refine kx_getr 26 F fl_X6_27 hk_c0 rfl rfl (j := 4) rfl dX6_closes_23 (v := (M c0 4)) rfl rfl ?_
      refine kx_iload_n 27 F 1 dX6_closes_26 rfl rfl rfl ?_
      refine kx_iconst 28 F dX6_closes_27 rfl ?_
      refine kx_iast 29 F hk_1 rfl rfl (by omega) (by decide) dX6_closes_28 rfl ?_
      intro N_7 hM_N_7
      have hI_N_7 : Inv false N_7 := Inv.u hI_M hM_N_7 hk_1 (a := 0) (b := 2) rfl rfl rfl (by omega)
      have hF_N_7 : Fr f_c_X6_closesA M N_7 := Fr.u hF_M hM_N_7 hk_1 rfl
      have hk_8 : kd (M c0 1) = 27 := Inv.r hI_M hk_c0 rfl 1 rfl rfl
      have hs_N_7 : ShOK 576 N_7 c0 := ShOK.mood (hX_M.2.1 c0 hk_c0) (m := a1) (v := 2) (by omega) (by decide) (by rw [hM_N_7, mu_k hk_c0 hk_1 rfl]) (by rw [hM_N_7, mu_k hk_c0 hk_1 rfl]) (by rw [hM_N_7, mu_k hk_c0 hk_1 rfl]) (fun i => by rw [hM_N_7, mu_k hk_8 hk_1 rfl]) (fun i => by rw [hM_N_7, mu_at])
      have hX_N_7 : XX N_7 := XX.shA hX_M hI_M hF_N_7 rfl hk_c0 hs_N_7
      refine kx_iconst 30 F dX6_closes_29 rfl ?_
      exact kx_zret F hQ (by omega) ⟨hI_N_7, hF_N_7, (by omega), hX_N_7⟩ dX6_closes_30
    · refine kx_iconst 21 F dX6_closes_20 rfl ?_
      exact kx_zret F hQ (by omega) ⟨hI_M, hF_M, (by omega), hX_M⟩ dX6_closes_21
theorem dX6_clear_0 : decode cX6_clear 0 = .ok (.iconst 0, 1) := by decide +kernel
theorem dX6_clear_1 : decode cX6_clear 1 = .ok (.istore_n 1, 1) := by decide +kernel
theorem dX6_clear_2 : decode cX6_clear 2 = .ok (.iload_n 1, 1) := by decide +kernel
theorem dX6_clear_3 : decode cX6_clear 3 = .ok (.aload_n 0, 1) := by decide +kernel
theorem dX6_clear_4 : decode cX6_clear 4 = .ok (.getfield 30, 3) := by decide +kernel
theorem dX6_clear_7 : decode cX6_clear 7 = .ok (.if_icmp .ge 21, 3) := by decide +kernel
theorem dX6_clear_10 : decode cX6_clear 10 = .ok (.aload_n 0, 1) := by decide +kernel
theorem dX6_clear_11 : decode cX6_clear 11 = .ok (.getfield 27, 3) := by decide +kernel
theorem dX6_clear_14 : decode cX6_clear 14 = .ok (.aload_n 0, 1) := by decide +kernel
theorem dX6_clear_15 : decode cX6_clear 15 = .ok (.getfield 15, 3) := by decide +kernel
theorem dX6_clear_18 : decode cX6_clear 18 = .ok (.iload_n 1, 1) := by decide +kernel
theorem dX6_clear_19 : decode cX6_clear 19 = .ok (.iaload, 1) := by decide +kernel
theorem dX6_clear_20 : decode cX6_clear 20 = .ok (.iconst 0, 1) := by decide +kernel
theorem dX6_clear_21 : decode cX6_clear 21 = .ok (.iastore, 1) := by decide +kernel
theorem dX6_clear_22 : decode cX6_clear 22 = .ok (.iinc 1 1, 3) := by decide +kernel
theorem dX6_clear_25 : decode cX6_clear 25 = .ok (.goto (-23), 3) := by decide +kernel
theorem dX6_clear_28 : decode cX6_clear 28 = .ok (.aload_n 0, 1) := by decide +kernel
theorem dX6_clear_29 : decode cX6_clear 29 = .ok (.iconst 0, 1) := by decide +kernel
theorem dX6_clear_30 : decode cX6_clear 30 = .ok (.putfield 30, 3) := by decide +kernel
theorem dX6_clear_33 : decode cX6_clear 33 = .ok (.return_, 1) := by decide +kernel
abbrev f_c_X6_clearA : List (Nat × Int) := [(26, 0), (30, -1)]
set_option maxHeartbeats 4000000 in
set_option maxRecDepth 100000 in
theorem c_X6_clearA (G : KG) (l : Launch) (M : Mem) (c0 : Int) (hI_M : Inv false M) (hk_c0 : kd c0 = 26) (hX_M : XX M) : KC false G l yX6_clear cX6_clear 2 none (0, 0) [vR G c0] M (fun A => kQv false G A (fun (N : Mem) => Inv false N ∧ Fr f_c_X6_clearA M N ∧ XX N)) := by
  refine kx_met (lo := [some (vR G c0), none]) (by decide) (Nat.le_of_ble_eq_true rfl) rfl ?_
  intro X F hQ
  have hF_M : Fr f_c_X6_clearA M M := Fr.rf _ _
  refine kx_iconst 1 F dX6_clear_0 rfl ?_
  refine kx_istore_n 2 F 1 (lo' := [some (vR G c0), some (vI 0)]) dX6_clear_1 rfl (by decide) rfl rfl rfl ?_
  have L_66 : ∀ (n_67 : Nat) (x1_64 : Int) (N_65 : Mem), Inv false N_65 → Fr f_c_X6_clearA M N_65 → ShCl 576 M N_65 c0 x1_64 → 0 ≤ x1_64 ∧ x1_64 ≤ 576 → (576 - (x1_64)).toNat = n_67 → KJ false G X N_65 2 [some (vR G c0), some (vI x1_64)] [] := by
    intro n_67
    refine Nat.strongRecOn n_67 ?_
    intro n_67 ih_68 x1_64 N_65 hI_N_65 hF_N_65 hp_71 h_69 hm_70
    refine kx_iload_n 3 F 1 dX6_clear_2 rfl rfl rfl ?_
    refine kx_aload_n 4 F 0 dX6_clear_3 rfl rfl rfl ?_
    refine kx_geti 7 F fl_X6_30 hk_c0 rfl rfl (j := 0) rfl dX6_clear_4 (v := (N_65 c0 0)) rfl rfl ?_
    have h_72 := Inv.g hI_N_65 hk_c0 rfl 0 (a := 0) (b := 576) rfl rfl
    refine kx_icmp_ge 10 F 28 dX6_clear_7 (by decide) rfl (by omega) (by omega) (fun h_73 => ?_) (fun h_73 => ?_)
    · refine kx_aload_n 29 F 0 dX6_clear_28 rfl rfl rfl ?_
      refine kx_iconst 30 F dX6_clear_29 rfl ?_
      refine kx_puti 33 F fw_X6_30 rfl hk_c0 rfl rfl (j := 0) rfl dX6_clear_30 rfl ?_
      intro N_74 hM_N_74
      have hI_N_74 : Inv false N_74 := Inv.u hI_N_65 hM_N_74 hk_c0 (a := 0) (b := 576) rfl rfl rfl (by omega)
      have hF_N_74 : Fr f_c_X6_clearA M N_74 := Fr.u hF_N_65 hM_N_74 hk_c0 rfl
      have hk_75 : kd (M c0 1) = 27 := Inv.r hI_M hk_c0 rfl 1 rfl rfl
      have hk_76 : kd (M c0 4) = 30 := Inv.r hI_M hk_c0 rfl 4 rfl rfl
      have h_77 := hp_71.1
      have hs_N_74 : ShOK 576 N_74 c0 := ShCl.done hp_71 (by omega) (by rw [hM_N_74, mu_s]) (by rw [hM_N_74, mu_i (by omega)]) (by rw [hM_N_74, mu_i (by omega)]) (fun i => by rw [hM_N_74, mu_k hk_76 hk_c0 rfl])
      have hX_N_74 : XX N_74 := XX.shA hX_M hI_M hF_N_74 rfl hk_c0 hs_N_74
      exact kx_vret F hQ ⟨hI_N_74, hF_N_74, hX_N_74⟩ dX6_clear_33
    · refine kx_aload_n 11 F 0 dX6_clear_10 rfl rfl rfl ?_
      refine kx_getr 14 F fl_X6_27 hk_c0 rfl rfl (j := 4) rfl dX6_clear_11 (v := (M c0 4)) (by rw [Fr.e hF_N_65 hk_c0 _ rfl]) rfl ?_
      have hk_78 : kd (M c0 4) = 30 := Inv.r hI_M hk_c0 rfl 4 rfl rfl
      refine kx_aload_n 15 F 0 dX6_clear_14 rfl rfl rfl ?_
      refine kx_getr 18 F fl_X6_15 hk_c0 rfl rfl (j := 1) rfl dX6_clear_15 (v := (M c0 1)) (by rw [Fr.e hF_N_65 hk_c0 _ rfl]) rfl ?_
      have hk_79 : kd (M c0 1) = 27 := Inv.r hI_M hk_c0 rfl 1 rfl rfl
      refine kx_iload_n 19 F 1 dX6_clear_18 rfl rfl rfl ?_
      refine kx_iald 20 F hk_79 rfl rfl (by omega) (by decide) dX6_clear_19 (v := (M (M c0 1) x1_64)) (by rw [Fr.e hF_N_65 hk_79 _ rfl]) rfl ?_
      have h_80 := Inv.g hI_M hk_79 rfl x1_64 (a := 0) (b := 575) rfl rfl
      refine kx_iconst 21 F dX6_clear_20 rfl ?_
      refine kx_iast 22 F hk_78 rfl rfl (by omega) (by decide) dX6_clear_21 rfl ?_
      intro N_81 hM_N_81
      have hI_N_81 : Inv false N_81 := Inv.u hI_N_65 hM_N_81 hk_78 (a := 0) (b := 2) rfl rfl rfl (by omega)
      have hF_N_81 : Fr f_c_X6_clearA M N_81 := Fr.u hF_N_65 hM_N_81 hk_78 rfl
      refine kx_iinc 25 F 1 (v := x1_64 + 1) (lo' := [some (vR G c0), some (vI (x1_64 + 1))]) dX6_clear_22 rfl (by omega) (by decide) rfl rfl rfl ?_
      refine kx_goto 2 F dX6_clear_25 (by decide) ?_
      exact ih_68 _ (by omega) (x1_64 + 1) N_81 hI_N_81 hF_N_81 (ShCl.step hp_71 (by rw [hM_N_81, mu_k hk_c0 hk_78 rfl]) (by rw [hM_N_81, mu_k hk_c0 hk_78 rfl]) (by rw [hM_N_81, mu_k hk_c0 hk_78 rfl]) (fun i => by rw [hM_N_81, mu_k hk_79 hk_78 rfl]) (fun i => by rw [hM_N_81, mu_at])) (by omega) rfl
  exact L_66 _ 0 M hI_M hF_M (ShCl.start (hX_M.2.1 c0 hk_c0)) (by omega) rfl
set_option maxHeartbeats 4000000 in
set_option maxRecDepth 100000 in
theorem c_X6_nearestB (G : KG) (l : Launch) (M : Mem) (c0 : Int) (hI_M : Inv false M) (hk_c0 : kd c0 = 31) : KC false G l yX6_nearest cX6_nearest 4 (some .int) (0, 0) [vR G c0] M (fun A => kQi false G A (fun (r : Int) (N : Mem) => M = N ∧ (r ≥ -1 ∧ r ≤ 1000000000))) := by
  refine kx_met (lo := [some (vR G c0), none, none, none]) (by decide) (Nat.le_of_ble_eq_true rfl) rfl ?_
  intro X F hQ
  refine kx_iconst 1 F dX6_nearest_0 rfl ?_
  refine kx_istore_n 2 F 1 (lo' := [some (vR G c0), some (vI (-1)), none, none]) dX6_nearest_1 rfl (by decide) rfl rfl rfl ?_
  refine kx_iconst 3 F dX6_nearest_2 rfl ?_
  refine kx_istore_n 4 F 2 (lo' := [some (vR G c0), some (vI (-1)), some (vI 0), none]) dX6_nearest_3 rfl (by decide) rfl rfl rfl ?_
  have L_105 : ∀ (n_106 : Nat) (x1_103 : Int) (x2_104 : Int), (-1) ≤ x1_103 ∧ x1_103 ≤ 1000000000 ∧ 0 ≤ x2_104 ∧ x2_104 ≤ 48 → (48 - (x2_104)).toNat = n_106 → KJ false G X M 4 [some (vR G c0), some (vI x1_103), some (vI x2_104), none] [] := by
    intro n_106
    refine Nat.strongRecOn n_106 ?_
    intro n_106 ih_107 x1_103 x2_104 h_108 hm_109
    refine kx_iload_n 5 F 2 dX6_nearest_4 rfl rfl rfl ?_
    refine kx_aload_n 6 F 0 dX6_nearest_5 rfl rfl rfl ?_
    refine kx_geti 9 F fl_X6_30 hk_c0 rfl rfl (j := 0) rfl dX6_nearest_6 (v := (M c0 0)) rfl rfl ?_
    have h_110 := Inv.g hI_M hk_c0 rfl 0 (a := 0) (b := 48) rfl rfl
    refine kx_icmp_ge 12 F 57 dX6_nearest_9 (by decide) rfl (by omega) (by omega) (fun h_111 => ?_) (fun h_111 => ?_)
    · refine kx_iload_n 58 F 1 dX6_nearest_57 rfl rfl rfl ?_
      exact kx_iret F hQ ⟨rfl, (by omega)⟩ dX6_nearest_58
    · refine kx_aload_n 13 F 0 dX6_nearest_12 rfl rfl rfl ?_
      refine kx_getr 16 F fl_X6_15 hk_c0 rfl rfl (j := 1) rfl dX6_nearest_13 (v := (M c0 1)) rfl rfl ?_
      have hk_112 : kd (M c0 1) = 32 := Inv.r hI_M hk_c0 rfl 1 rfl rfl
      refine kx_iload_n 17 F 2 dX6_nearest_16 rfl rfl rfl ?_
      refine kx_iald 18 F hk_112 rfl rfl (by omega) (by decide) dX6_nearest_17 (v := (M (M c0 1) x2_104)) rfl rfl ?_
      have h_113 := Inv.g hI_M hk_112 rfl x2_104 (a := 0) (b := 47) rfl rfl
      refine kx_istore_n 19 F 3 (lo' := [some (vR G c0), some (vI x1_103), some (vI x2_104), some (vI (M (M c0 1) x2_104))]) dX6_nearest_18 rfl (by decide) rfl rfl rfl ?_
      refine kx_aload_n 20 F 0 dX6_nearest_19 rfl rfl rfl ?_
      refine kx_getr 23 F fl_X6_27 hk_c0 rfl rfl (j := 4) rfl dX6_nearest_20 (v := (M c0 4)) rfl rfl ?_
      have hk_114 : kd (M c0 4) = 35 := Inv.r hI_M hk_c0 rfl 4 rfl rfl
      refine kx_iload_n 24 F 3 dX6_nearest_23 rfl rfl rfl ?_
      refine kx_iald 25 F hk_114 rfl rfl (by omega) (by decide) dX6_nearest_24 (v := (M (M c0 4) (M (M c0 1) x2_104))) rfl rfl ?_
      have h_115 := Inv.g hI_M hk_114 rfl (M (M c0 1) x2_104) (a := 0) (b := 2) rfl rfl
      refine kx_iconst 26 F dX6_nearest_25 rfl ?_
      have J_124 : ∀ (x1_123 : Int), (-1) ≤ x1_123 ∧ x1_123 ≤ 1000000000 → KJ false G X M 51 [some (vR G c0), some (vI x1_123), some (vI x2_104), none] [] := by
        intro x1_123 h_125
        refine kx_iinc 54 F 2 (v := x2_104 + 1) (lo' := [some (vR G c0), some (vI x1_123), some (vI (x2_104 + 1)), none]) dX6_nearest_51 rfl (by omega) (by decide) rfl rfl rfl ?_
        refine kx_goto 4 F dX6_nearest_54 (by decide) ?_
        exact ih_107 _ (by omega) x1_123 (x2_104 + 1) (by omega) rfl
      refine kx_icmp_ne 29 F 51 dX6_nearest_26 (by decide) rfl (by omega) (by decide) (fun h_126 => ?_) (fun h_126 => ?_)
      · refine kx_drop 3 (lo' := [some (vR G c0), some (vI x1_103), some (vI x2_104), none]) rfl ?_
        exact J_124 x1_103 (by omega)
      · refine kx_iload_n 30 F 1 dX6_nearest_29 rfl rfl rfl ?_
        refine kx_iconst 31 F dX6_nearest_30 rfl ?_
        have J_131 : KJ false G X M 44 [some (vR G c0), none, some (vI x2_104), some (vI (M (M c0 1) x2_104))] [] := by
          refine kx_aload_n 45 F 0 dX6_nearest_44 rfl rfl rfl ?_
          refine kx_getr 48 F fl_X6_21 hk_c0 rfl rfl (j := 2) rfl dX6_nearest_45 (v := (M c0 2)) rfl rfl ?_
          have hk_133 : kd (M c0 2) = 33 := Inv.r hI_M hk_c0 rfl 2 rfl rfl
          refine kx_iload_n 49 F 3 dX6_nearest_48 rfl rfl rfl ?_
          refine kx_iald 50 F hk_133 rfl rfl (by omega) (by decide) dX6_nearest_49 (v := (M (M c0 2) (M (M c0 1) x2_104))) rfl rfl ?_
          have h_134 := Inv.g hI_M hk_133 rfl (M (M c0 1) x2_104) (a := 0) (b := 1000000000) rfl rfl
          refine kx_istore_n 51 F 1 (lo' := [some (vR G c0), some (vI (M (M c0 2) (M (M c0 1) x2_104))), some (vI x2_104), some (vI (M (M c0 1) x2_104))]) dX6_nearest_50 rfl (by decide) rfl rfl rfl ?_
          refine kx_drop 3 (lo' := [some (vR G c0), some (vI (M (M c0 2) (M (M c0 1) x2_104))), some (vI x2_104), none]) rfl ?_
          exact J_124 (M (M c0 2) (M (M c0 1) x2_104)) (by omega)
        refine kx_icmp_eq 34 F 44 dX6_nearest_31 (by decide) rfl (by omega) (by decide) (fun h_135 => ?_) (fun h_135 => ?_)
        · refine kx_drop 1 (lo' := [some (vR G c0), none, some (vI x2_104), some (vI (M (M c0 1) x2_104))]) rfl ?_
          exact J_131 
        · refine kx_aload_n 35 F 0 dX6_nearest_34 rfl rfl rfl ?_
          refine kx_getr 38 F fl_X6_21 hk_c0 rfl rfl (j := 2) rfl dX6_nearest_35 (v := (M c0 2)) rfl rfl ?_
          have hk_136 : kd (M c0 2) = 33 := Inv.r hI_M hk_c0 rfl 2 rfl rfl
          refine kx_iload_n 39 F 3 dX6_nearest_38 rfl rfl rfl ?_
          refine kx_iald 40 F hk_136 rfl rfl (by omega) (by decide) dX6_nearest_39 (v := (M (M c0 2) (M (M c0 1) x2_104))) rfl rfl ?_
          have h_137 := Inv.g hI_M hk_136 rfl (M (M c0 1) x2_104) (a := 0) (b := 1000000000) rfl rfl
          refine kx_iload_n 41 F 1 dX6_nearest_40 rfl rfl rfl ?_
          refine kx_icmp_ge 44 F 51 dX6_nearest_41 (by decide) rfl (by omega) (by omega) (fun h_138 => ?_) (fun h_138 => ?_)
          · refine kx_drop 3 (lo' := [some (vR G c0), some (vI x1_103), some (vI x2_104), none]) rfl ?_
            exact J_124 x1_103 (by omega)
          · refine kx_drop 1 (lo' := [some (vR G c0), none, some (vI x2_104), some (vI (M (M c0 1) x2_104))]) rfl ?_
            exact J_131 
  exact L_105 _ (-1) 0 (by omega) rfl
set_option maxHeartbeats 4000000 in
set_option maxRecDepth 100000 in
theorem c_X6_isClosedB (G : KG) (l : Launch) (M : Mem) (c0 a1 : Int) (hI_M : Inv false M) (hk_c0 : kd c0 = 31) (hpre : -2147483648 ≤ a1 ∧ a1 ≤ 2147483647) : KC false G l yX6_isClosed cX6_isClosed 2 (some .boolean) (0, 0) [vR G c0, vI a1] M (fun A => kQi false G A (fun (r : Int) (N : Mem) => M = N ∧ ((r = 1 ∧ 0 ≤ a1 ∧ a1 ≤ 47) ∨ (r = 0)))) := by
  refine kx_met (lo := [some (vR G c0), some (vI a1)]) (by decide) (Nat.le_of_ble_eq_true rfl) rfl ?_
  intro X F hQ
  refine kx_iload_n 1 F 1 dX6_isClosed_0 rfl rfl rfl ?_
  refine kx_if_lt 4 F 27 dX6_isClosed_1 (by decide) rfl (by omega) (fun h_1 => ?_) (fun h_1 => ?_)
  · refine kx_iconst 28 F dX6_isClosed_27 rfl ?_
    exact kx_zret F hQ (by omega) ⟨rfl, (by omega)⟩ dX6_isClosed_28
  · refine kx_iload_n 5 F 1 dX6_isClosed_4 rfl rfl rfl ?_
    refine kx_aload_n 6 F 0 dX6_isClosed_5 rfl rfl rfl ?_
    refine kx_getr 9 F fl_X6_27 hk_c0 rfl rfl (j := 4) rfl dX6_isClosed_6 (v := (M c0 4)) rfl rfl ?_
    have hk_2 : kd (M c0 4) = 35 := Inv.r hI_M hk_c0 rfl 4 rfl rfl
    refine kx_alen 10 F hk_2 rfl rfl (z := 48) (by decide) dX6_isClosed_9 rfl ?_
    refine kx_icmp_ge 13 F 27 dX6_isClosed_10 (by decide) rfl (by omega) (by decide) (fun h_3 => ?_) (fun h_3 => ?_)
    · refine kx_iconst 28 F dX6_isClosed_27 rfl ?_
      exact kx_zret F hQ (by omega) ⟨rfl, (by omega)⟩ dX6_isClosed_28
    · refine kx_aload_n 14 F 0 dX6_isClosed_13 rfl rfl rfl ?_
      refine kx_getr 17 F fl_X6_27 hk_c0 rfl rfl (j := 4) rfl dX6_isClosed_14 (v := (M c0 4)) rfl rfl ?_
      refine kx_iload_n 18 F 1 dX6_isClosed_17 rfl rfl rfl ?_
      refine kx_iald 19 F hk_2 rfl rfl (by omega) (by decide) dX6_isClosed_18 (v := (M (M c0 4) a1)) rfl rfl ?_
      have h_4 := Inv.g hI_M hk_2 rfl a1 (a := 0) (b := 2) rfl rfl
      refine kx_iconst 20 F dX6_isClosed_19 rfl ?_
      refine kx_icmp_ne 23 F 27 dX6_isClosed_20 (by decide) rfl (by omega) (by decide) (fun h_5 => ?_) (fun h_5 => ?_)
      · refine kx_iconst 28 F dX6_isClosed_27 rfl ?_
        exact kx_zret F hQ (by omega) ⟨rfl, (by omega)⟩ dX6_isClosed_28
      · refine kx_iconst 24 F dX6_isClosed_23 rfl ?_
        refine kx_goto 28 F dX6_isClosed_24 (by decide) ?_
        exact kx_zret F hQ (by omega) ⟨rfl, (by omega)⟩ dX6_isClosed_28
abbrev f_c_X6_offerB : List (Nat × Int) := [(31, 0), (32, -1), (33, -1), (34, -1), (35, -1)]
set_option maxHeartbeats 4000000 in
set_option maxRecDepth 100000 in
theorem c_X6_offerB (G : KG) (l : Launch) (M : Mem) (c0 a1 a2 a3 : Int) (hI_M : Inv false M) (hk_c0 : kd c0 = 31) (hpre : -2147483648 ≤ a1 ∧ a1 ≤ 2147483647 ∧ -2147483648 ≤ a2 ∧ a2 ≤ 2147483647 ∧ -2147483648 ≤ a3 ∧ a3 ≤ 2147483647 ∧ 0 ≤ a2 ∧ a2 ≤ 1000000000) (hX_M : XX M) : KC false G l yX6_offer cX6_offer 4 none (1, 23) [vR G c0, vI a1, vI a2, vI a3] M (fun A => kQv false G A (fun (N : Mem) => Inv false N ∧ Fr f_c_X6_offerB M N ∧ XX N)) := by
  refine kx_met (lo := [some (vR G c0), some (vI a1), some (vI a2), some (vI a3)]) (by decide) (Nat.le_of_ble_eq_true rfl) rfl ?_
  intro X F hQ
  have hF_M : Fr f_c_X6_offerB M M := Fr.rf _ _
  refine kx_iload_n 1 F 1 dX6_offer_0 rfl rfl rfl ?_
  refine kx_if_lt 4 F 23 dX6_offer_1 (by decide) rfl (by omega) (fun h_1 => ?_) (fun h_1 => ?_)
  · exact kx_vret F hQ ⟨hI_M, hF_M, hX_M⟩ dX6_offer_23
  · refine kx_iload_n 5 F 1 dX6_offer_4 rfl rfl rfl ?_
    refine kx_aload_n 6 F 0 dX6_offer_5 rfl rfl rfl ?_
    refine kx_getr 9 F fl_X6_27 hk_c0 rfl rfl (j := 4) rfl dX6_offer_6 (v := (M c0 4)) rfl rfl ?_
    have hk_2 : kd (M c0 4) = 35 := Inv.r hI_M hk_c0 rfl 4 rfl rfl
    refine kx_alen 10 F hk_2 rfl rfl (z := 48) (by decide) dX6_offer_9 rfl ?_
    refine kx_icmp_ge 13 F 23 dX6_offer_10 (by decide) rfl (by omega) (by decide) (fun h_3 => ?_) (fun h_3 => ?_)
    · exact kx_vret F hQ ⟨hI_M, hF_M, hX_M⟩ dX6_offer_23
    · refine kx_aload_n 14 F 0 dX6_offer_13 rfl rfl rfl ?_
      refine kx_getr 17 F fl_X6_27 hk_c0 rfl rfl (j := 4) rfl dX6_offer_14 (v := (M c0 4)) rfl rfl ?_
      refine kx_iload_n 18 F 1 dX6_offer_17 rfl rfl rfl ?_
      refine kx_iald 19 F hk_2 rfl rfl (by omega) (by decide) dX6_offer_18 (v := (M (M c0 4) a1)) rfl rfl ?_
      have h_4 := Inv.g hI_M hk_2 rfl a1 (a := 0) (b := 2) rfl rfl
      refine kx_iconst 20 F dX6_offer_19 rfl ?_
      refine kx_icmp_ne 23 F 24 dX6_offer_20 (by decide) rfl (by omega) (by decide) (fun h_5 => ?_) (fun h_5 => ?_)
      · refine kx_aload_n 25 F 0 dX6_offer_24 rfl rfl rfl ?_
        refine kx_getr 28 F fl_X6_27 hk_c0 rfl rfl (j := 4) rfl dX6_offer_25 (v := (M c0 4)) rfl rfl ?_
        refine kx_iload_n 29 F 1 dX6_offer_28 rfl rfl rfl ?_
        refine kx_iald 30 F hk_2 rfl rfl (by omega) (by decide) dX6_offer_29 (v := (M (M c0 4) a1)) rfl rfl ?_
        refine kx_if_ne 33 F 63 dX6_offer_30 (by decide) rfl (by omega) (fun h_6 => ?_) (fun h_6 => ?_)
        · refine kx_iload_n 64 F 2 dX6_offer_63 rfl rfl rfl ?_
          refine kx_iload_n 65 F 3 dX6_offer_64 rfl rfl rfl ?_
          refine kx_aload_n 66 F 0 dX6_offer_65 rfl rfl rfl ?_
          refine kx_getr 69 F fl_X6_21 hk_c0 rfl rfl (j := 2) rfl dX6_offer_66 (v := (M c0 2)) rfl rfl ?_
          have hk_7 : kd (M c0 2) = 33 := Inv.r hI_M hk_c0 rfl 2 rfl rfl
          refine kx_iload_n 70 F 1 dX6_offer_69 rfl rfl rfl ?_
          refine kx_iald 71 F hk_7 rfl rfl (by omega) (by decide) dX6_offer_70 (v := (M (M c0 2) a1)) rfl rfl ?_
          have h_8 := Inv.g hI_M hk_7 rfl a1 (a := 0) (b := 1000000000) rfl rfl
          refine kx_aload_n 72 F 0 dX6_offer_71 rfl rfl rfl ?_
          refine kx_getr 75 F fl_X6_24 hk_c0 rfl rfl (j := 3) rfl dX6_offer_72 (v := (M c0 3)) rfl rfl ?_
          have hk_9 : kd (M c0 3) = 34 := Inv.r hI_M hk_c0 rfl 3 rfl rfl
          refine kx_iload_n 76 F 1 dX6_offer_75 rfl rfl rfl ?_
          refine kx_iald 77 F hk_9 rfl rfl (by omega) (by decide) dX6_offer_76 (v := (M (M c0 3) a1)) rfl rfl ?_
          have h_10 := Inv.g hI_M hk_9 rfl a1 (a := (-2147483648)) (b := 2147483647) rfl rfl
          refine kx_Si 80 F (As := [vI a2, vI a3, vI (M (M c0 2) a1), vI (M (M c0 3) a1)]) (st := []) sd_X6_34 (c_X6_isBefore G l M a2 a3 (M (M c0 2) a1) (M (M c0 3) a1) hI_M (by omega)) ⟨by decide, by decide⟩ rfl rfl (Nat.le_of_ble_eq_true rfl) dX6_offer_77 rfl ?_
          intro r_11 N_12 q_13
          obtain ⟨rfl, q_13c⟩ := q_13
          refine kx_if_ne 83 F 84 dX6_offer_80 (by decide) rfl (by omega) (fun h_14 => ?_) (fun h_14 => ?_)
          · refine kx_aload_n 85 F 0 dX6_offer_84 rfl rfl rfl ?_
            refine kx_getr 88 F fl_X6_21 hk_c0 rfl rfl (j := 2) rfl dX6_offer_85 (v := (M c0 2)) rfl rfl ?_
            refine kx_iload_n 89 F 1 dX6_offer_88 rfl rfl rfl ?_
            refine kx_iload_n 90 F 2 dX6_offer_89 rfl rfl rfl ?_
            refine kx_iast 91 F hk_7 rfl rfl (by omega) (by decide) dX6_offer_90 rfl ?_
            intro N_15 hM_N_15
            have hI_N_15 : Inv false N_15 := Inv.u hI_M hM_N_15 hk_7 (a := 0) (b := 1000000000) rfl rfl rfl (by omega)
            have hF_N_15 : Fr f_c_X6_offerB M N_15 := Fr.u hF_M hM_N_15 hk_7 rfl
            have hX_N_15 : XX N_15 := XX.st hX_M hI_M hM_N_15 hk_7 rfl
            refine kx_aload_n 92 F 0 dX6_offer_91 rfl rfl rfl ?_
            refine kx_getr 95 F fl_X6_24 hk_c0 rfl rfl (j := 3) rfl dX6_offer_92 (v := (M c0 3)) (by rw [hM_N_15, mu_k hk_c0 hk_7 rfl]) rfl ?_
            refine kx_iload_n 96 F 1 dX6_offer_95 rfl rfl rfl ?_
            refine kx_iload_n 97 F 3 dX6_offer_96 rfl rfl rfl ?_
            refine kx_iast 98 F hk_9 rfl rfl (by omega) (by decide) dX6_offer_97 rfl ?_
            intro N_16 hM_N_16
            have hI_N_16 : Inv false N_16 := Inv.u hI_N_15 hM_N_16 hk_9 (a := (-2147483648)) (b := 2147483647) rfl rfl rfl (by omega)
            have hF_N_16 : Fr f_c_X6_offerB M N_16 := Fr.u hF_N_15 hM_N_16 hk_9 rfl
            have hX_N_16 : XX N_16 := XX.st hX_N_15 hI_N_15 hM_N_16 hk_9 rfl
            exact kx_vret F hQ ⟨hI_N_16, hF_N_16, hX_N_16⟩ dX6_offer_98
          · exact kx_vret F hQ ⟨hI_M, hF_M, hX_M⟩ dX6_offer_83
        · have hk_17 : kd (M c0 1) = 32 := Inv.r hI_M hk_c0 rfl 1 rfl rfl
          have h_18 := Inv.g hI_M hk_c0 rfl 0 (a := 0) (b := 48) rfl rfl
          have h_19 : M c0 0 < 48 := ShOK.lt (hX_M.2.2.1 c0 hk_c0) (by omega) (fun i => by have := Inv.g hI_M hk_17 rfl i (a := 0) (b := 47) rfl rfl; omega) (m := a1) (by omega) (by omega)
          refine kx_aload_n 34 F 0 dX6_offer_33 rfl rfl rfl ?_
          refine kx_getr 37 F fl_X6_27 hk_c0 rfl rfl (j := 4) rfl dX6_offer_34 (v := (M c0 4)) rfl rfl ?_
          refine kx_iload_n 38 F 1 dX6_offer_37 rfl rfl rfl ?_
          refine kx_iconst 39 F dX6_offer_38 rfl ?_
          refine kx_iast 40 F hk_2 rfl rfl (by omega) (by decide) dX6_offer_39 rfl ?_
          intro N_20 hM_N_20
          have hI_N_20 : Inv false N_20 := Inv.u hI_M hM_N_20 hk_2 (a := 0) (b := 2) rfl rfl rfl (by omega)
          have hF_N_20 : Fr f_c_X6_offerB M N_20 := Fr.u hF_M hM_N_20 hk_2 rfl
          refine kx_aload_n 41 F 0 dX6_offer_40 rfl rfl rfl ?_
          refine kx_getr 44 F fl_X6_15 hk_c0 rfl rfl (j := 1) rfl dX6_offer_41 (v := (M c0 1)) (by rw [hM_N_20, mu_k hk_c0 hk_2 rfl]) rfl ?_
          refine kx_aload_n 45 F 0 dX6_offer_44 rfl rfl rfl ?_
          refine kx_geti 48 F fl_X6_30 hk_c0 rfl rfl (j := 0) rfl dX6_offer_45 (v := (M c0 0)) (by rw [hM_N_20, mu_k hk_c0 hk_2 rfl]) rfl ?_
          refine kx_iload_n 49 F 1 dX6_offer_48 rfl rfl rfl ?_
          refine kx_iast 50 F hk_17 rfl rfl (by omega) (by decide) dX6_offer_49 rfl ?_
          intro N_21 hM_N_21
          have hI_N_21 : Inv false N_21 := Inv.u hI_N_20 hM_N_21 hk_17 (a := 0) (b := 47) rfl rfl rfl (by omega)
          have hF_N_21 : Fr f_c_X6_offerB M N_21 := Fr.u hF_N_20 hM_N_21 hk_17 rfl
          refine kx_aload_n 51 F 0 dX6_offer_50 rfl rfl rfl ?_
          refine kx_dup 52 F dX6_offer_51 rfl rfl ?_
          refine kx_geti 55 F fl_X6_30 hk_c0 rfl rfl (j := 0) rfl dX6_offer_52 (v := (M c0 0)) (by rw [hM_N_21, mu_k hk_c0 hk_17 rfl, hM_N_20, mu_k hk_c0 hk_2 rfl]) rfl ?_
          refine kx_iconst 56 F dX6_offer_55 rfl ?_
          refine kx_iadd 57 F (v := (M c0 0) + 1) dX6_offer_56 rfl rfl ?_
          refine kx_puti 60 F fw_X6_30 rfl hk_c0 rfl rfl (j := 0) rfl dX6_offer_57 rfl ?_
          intro N_22 hM_N_22
          have hI_N_22 : Inv false N_22 := Inv.u hI_N_21 hM_N_22 hk_c0 (a := 0) (b := 48) rfl rfl rfl (by omega)
          have hF_N_22 : Fr f_c_X6_offerB M N_22 := Fr.u hF_N_21 hM_N_22 hk_c0 rfl
          have hs_N_22 : ShOK 48 N_22 c0 := ShOK.ins (hX_M.2.2.1 c0 hk_c0) (m := a1) (by omega) (by omega) (by rw [hM_N_22, mu_s]) (by rw [hM_N_22, mu_i (by omega), hM_N_21, mu_k hk_c0 hk_17 rfl, hM_N_20, mu_k hk_c0 hk_2 rfl]) (by rw [hM_N_22, mu_i (by omega), hM_N_21, mu_k hk_c0 hk_17 rfl, hM_N_20, mu_k hk_c0 hk_2 rfl]) (fun i => by rw [hM_N_22, mu_k hk_17 hk_c0 rfl, hM_N_21, mu_at, hM_N_20, mu_k hk_17 hk_2 rfl]) (fun i => by rw [hM_N_22, mu_k hk_2 hk_c0 rfl, hM_N_21, mu_k hk_2 hk_17 rfl, hM_N_20, mu_at])
          have hX_N_22 : XX N_22 := XX.shB hX_M hI_M hF_N_22 rfl hk_c0 hs_N_22
          refine kx_goto 84 F dX6_offer_60 (by decide) ?_
          refine kx_aload_n 85 F 0 dX6_offer_84 rfl rfl rfl ?_
          refine kx_getr 88 F fl_X6_21 hk_c0 rfl rfl (j := 2) rfl dX6_offer_85 (v := (M c0 2)) (by rw [hM_N_22, mu_i (by omega), hM_N_21, mu_k hk_c0 hk_17 rfl, hM_N_20, mu_k hk_c0 hk_2 rfl]) rfl ?_
          have hk_23 : kd (M c0 2) = 33 := Inv.r hI_M hk_c0 rfl 2 rfl rfl
          refine kx_iload_n 89 F 1 dX6_offer_88 rfl rfl rfl ?_
          refine kx_iload_n 90 F 2 dX6_offer_89 rfl rfl rfl ?_
          refine kx_iast 91 F hk_23 rfl rfl (by omega) (by decide) dX6_offer_90 rfl ?_
          intro N_24 hM_N_24
          have hI_N_24 : Inv false N_24 := Inv.u hI_N_22 hM_N_24 hk_23 (a := 0) (b := 1000000000) rfl rfl rfl (by omega)
          have hF_N_24 : Fr f_c_X6_offerB M N_24 := Fr.u hF_N_22 hM_N_24 hk_23 rfl
          have hX_N_24 : XX N_24 := XX.st hX_N_22 hI_N_22 hM_N_24 hk_23 rfl
          refine kx_aload_n 92 F 0 dX6_offer_91 rfl rfl rfl ?_
          refine kx_getr 95 F fl_X6_24 hk_c0 rfl rfl (j := 3) rfl dX6_offer_92 (v := (M c0 3)) (by rw [hM_N_24, mu_k hk_c0 hk_23 rfl, hM_N_22, mu_i (by omega), hM_N_21, mu_k hk_c0 hk_17 rfl, hM_N_20, mu_k hk_c0 hk_2 rfl]) rfl ?_
          have hk_25 : kd (M c0 3) = 34 := Inv.r hI_M hk_c0 rfl 3 rfl rfl
          refine kx_iload_n 96 F 1 dX6_offer_95 rfl rfl rfl ?_
          refine kx_iload_n 97 F 3 dX6_offer_96 rfl rfl rfl ?_
          refine kx_iast 98 F hk_25 rfl rfl (by omega) (by decide) dX6_offer_97 rfl ?_
          intro N_26 hM_N_26
          have hI_N_26 : Inv false N_26 := Inv.u hI_N_24 hM_N_26 hk_25 (a := (-2147483648)) (b := 2147483647) rfl rfl rfl (by omega)
          have hF_N_26 : Fr f_c_X6_offerB M N_26 := Fr.u hF_N_24 hM_N_26 hk_25 rfl
          have hX_N_26 : XX N_26 := XX.st hX_N_24 hI_N_24 hM_N_26 hk_25 rfl
          exact kx_vret F hQ ⟨hI_N_26, hF_N_26, hX_N_26⟩ dX6_offer_98
      · exact kx_vret F hQ ⟨hI_M, hF_M, hX_M⟩ dX6_offer_23
abbrev f_c_X6_closesB : List (Nat × Int) := [(35, -1)]
set_option maxHeartbeats 4000000 in
set_option maxRecDepth 100000 in
theorem c_X6_closesB (G : KG) (l : Launch) (M : Mem) (c0 a1 a2 : Int) (hI_M : Inv false M) (hk_c0 : kd c0 = 31) (hpre : -2147483648 ≤ a1 ∧ a1 ≤ 2147483647 ∧ -2147483648 ≤ a2 ∧ a2 ≤ 2147483647 ∧ 0 ≤ a1 ∧ a1 ≤ 47) (hX_M : XX M) : KC false G l yX6_closes cX6_closes 3 (some .boolean) (0, 0) [vR G c0, vI a1, vI a2] M (fun A => kQi false G A (fun (r : Int) (N : Mem) => Inv false N ∧ Fr f_c_X6_closesB M N ∧ (0 ≤ r ∧ r ≤ 1) ∧ XX N)) := by
  refine kx_met (lo := [some (vR G c0), some (vI a1), some (vI a2)]) (by decide) (Nat.le_of_ble_eq_true rfl) rfl ?_
  intro X F hQ
  have hF_M : Fr f_c_X6_closesB M M := Fr.rf _ _
  refine kx_aload_n 1 F 0 dX6_closes_0 rfl rfl rfl ?_
  refine kx_getr 4 F fl_X6_27 hk_c0 rfl rfl (j := 4) rfl dX6_closes_1 (v := (M c0 4)) rfl rfl ?_
  have hk_1 : kd (M c0 4) = 35 := Inv.r hI_M hk_c0 rfl 4 rfl rfl
  refine kx_iload_n 5 F 1 dX6_closes_4 rfl rfl rfl ?_
  refine kx_iald 6 F hk_1 rfl rfl (by omega) (by decide) dX6_closes_5 (v := (M (M c0 4) a1)) rfl rfl ?_
  have h_2 := Inv.g hI_M hk_1 rfl a1 (a := 0) (b := 2) rfl rfl
  refine kx_iconst 7 F dX6_closes_6 rfl ?_
  refine kx_icmp_ne 10 F 20 dX6_closes_7 (by decide) rfl (by omega) (by decide) (fun h_3 => ?_) (fun h_3 => ?_)
  · refine kx_iconst 21 F dX6_closes_20 rfl ?_
    exact kx_zret F hQ (by omega) ⟨hI_M, hF_M, (by omega), hX_M⟩ dX6_closes_21
  · refine kx_aload_n 11 F 0 dX6_closes_10 rfl rfl rfl ?_
    refine kx_getr 14 F fl_X6_21 hk_c0 rfl rfl (j := 2) rfl dX6_closes_11 (v := (M c0 2)) rfl rfl ?_
    have hk_4 : kd (M c0 2) = 33 := Inv.r hI_M hk_c0 rfl 2 rfl rfl
    refine kx_iload_n 15 F 1 dX6_closes_14 rfl rfl rfl ?_
    refine kx_iald 16 F hk_4 rfl rfl (by omega) (by decide) dX6_closes_15 (v := (M (M c0 2) a1)) rfl rfl ?_
    have h_5 := Inv.g hI_M hk_4 rfl a1 (a := 0) (b := 1000000000) rfl rfl
    refine kx_iload_n 17 F 2 dX6_closes_16 rfl rfl rfl ?_
    refine kx_icmp_eq 20 F 22 dX6_closes_17 (by decide) rfl (by omega) (by omega) (fun h_6 => ?_) (fun h_6 => ?_)
    · refine kx_aload_n 23 F 0 dX6_closes_22 rfl rfl rfl ?_
      refine kx_getr 26 F fl_X6_27 hk_c0 rfl rfl (j := 4) rfl dX6_closes_23 (v := (M c0 4)) rfl rfl ?_
      refine kx_iload_n 27 F 1 dX6_closes_26 rfl rfl rfl ?_
      refine kx_iconst 28 F dX6_closes_27 rfl ?_
      refine kx_iast 29 F hk_1 rfl rfl (by omega) (by decide) dX6_closes_28 rfl ?_
      intro N_7 hM_N_7
      have hI_N_7 : Inv false N_7 := Inv.u hI_M hM_N_7 hk_1 (a := 0) (b := 2) rfl rfl rfl (by omega)
      have hF_N_7 : Fr f_c_X6_closesB M N_7 := Fr.u hF_M hM_N_7 hk_1 rfl
      have hk_8 : kd (M c0 1) = 32 := Inv.r hI_M hk_c0 rfl 1 rfl rfl
      have hs_N_7 : ShOK 48 N_7 c0 := ShOK.mood (hX_M.2.2.1 c0 hk_c0) (m := a1) (v := 2) (by omega) (by decide) (by rw [hM_N_7, mu_k hk_c0 hk_1 rfl]) (by rw [hM_N_7, mu_k hk_c0 hk_1 rfl]) (by rw [hM_N_7, mu_k hk_c0 hk_1 rfl]) (fun i => by rw [hM_N_7, mu_k hk_8 hk_1 rfl]) (fun i => by rw [hM_N_7, mu_at])
      have hX_N_7 : XX N_7 := XX.shB hX_M hI_M hF_N_7 rfl hk_c0 hs_N_7
      refine kx_iconst 30 F dX6_closes_29 rfl ?_
      exact kx_zret F hQ (by omega) ⟨hI_N_7, hF_N_7, (by omega), hX_N_7⟩ dX6_closes_30
    · refine kx_iconst 21 F dX6_closes_20 rfl ?_
      exact kx_zret F hQ (by omega) ⟨hI_M, hF_M, (by omega), hX_M⟩ dX6_closes_21
abbrev f_c_X6_clearB : List (Nat × Int) := [(31, 0), (35, -1)]
set_option maxHeartbeats 4000000 in
set_option maxRecDepth 100000 in
theorem c_X6_clearB (G : KG) (l : Launch) (M : Mem) (c0 : Int) (hI_M : Inv false M) (hk_c0 : kd c0 = 31) (hX_M : XX M) : KC false G l yX6_clear cX6_clear 2 none (0, 0) [vR G c0] M (fun A => kQv false G A (fun (N : Mem) => Inv false N ∧ Fr f_c_X6_clearB M N ∧ XX N)) := by
  refine kx_met (lo := [some (vR G c0), none]) (by decide) (Nat.le_of_ble_eq_true rfl) rfl ?_
  intro X F hQ
  have hF_M : Fr f_c_X6_clearB M M := Fr.rf _ _
  refine kx_iconst 1 F dX6_clear_0 rfl ?_
  refine kx_istore_n 2 F 1 (lo' := [some (vR G c0), some (vI 0)]) dX6_clear_1 rfl (by decide) rfl rfl rfl ?_
  have L_66 : ∀ (n_67 : Nat) (x1_64 : Int) (N_65 : Mem), Inv false N_65 → Fr f_c_X6_clearB M N_65 → ShCl 48 M N_65 c0 x1_64 → 0 ≤ x1_64 ∧ x1_64 ≤ 48 → (48 - (x1_64)).toNat = n_67 → KJ false G X N_65 2 [some (vR G c0), some (vI x1_64)] [] := by
    intro n_67
    refine Nat.strongRecOn n_67 ?_
    intro n_67 ih_68 x1_64 N_65 hI_N_65 hF_N_65 hp_71 h_69 hm_70
    refine kx_iload_n 3 F 1 dX6_clear_2 rfl rfl rfl ?_
    refine kx_aload_n 4 F 0 dX6_clear_3 rfl rfl rfl ?_
    refine kx_geti 7 F fl_X6_30 hk_c0 rfl rfl (j := 0) rfl dX6_clear_4 (v := (N_65 c0 0)) rfl rfl ?_
    have h_72 := Inv.g hI_N_65 hk_c0 rfl 0 (a := 0) (b := 48) rfl rfl
    refine kx_icmp_ge 10 F 28 dX6_clear_7 (by decide) rfl (by omega) (by omega) (fun h_73 => ?_) (fun h_73 => ?_)
    · refine kx_aload_n 29 F 0 dX6_clear_28 rfl rfl rfl ?_
      refine kx_iconst 30 F dX6_clear_29 rfl ?_
      refine kx_puti 33 F fw_X6_30 rfl hk_c0 rfl rfl (j := 0) rfl dX6_clear_30 rfl ?_
      intro N_74 hM_N_74
      have hI_N_74 : Inv false N_74 := Inv.u hI_N_65 hM_N_74 hk_c0 (a := 0) (b := 48) rfl rfl rfl (by omega)
      have hF_N_74 : Fr f_c_X6_clearB M N_74 := Fr.u hF_N_65 hM_N_74 hk_c0 rfl
      have hk_75 : kd (M c0 1) = 32 := Inv.r hI_M hk_c0 rfl 1 rfl rfl
      have hk_76 : kd (M c0 4) = 35 := Inv.r hI_M hk_c0 rfl 4 rfl rfl
      have h_77 := hp_71.1
      have hs_N_74 : ShOK 48 N_74 c0 := ShCl.done hp_71 (by omega) (by rw [hM_N_74, mu_s]) (by rw [hM_N_74, mu_i (by omega)]) (by rw [hM_N_74, mu_i (by omega)]) (fun i => by rw [hM_N_74, mu_k hk_76 hk_c0 rfl])
      have hX_N_74 : XX N_74 := XX.shB hX_M hI_M hF_N_74 rfl hk_c0 hs_N_74
      exact kx_vret F hQ ⟨hI_N_74, hF_N_74, hX_N_74⟩ dX6_clear_33
    · refine kx_aload_n 11 F 0 dX6_clear_10 rfl rfl rfl ?_
      refine kx_getr 14 F fl_X6_27 hk_c0 rfl rfl (j := 4) rfl dX6_clear_11 (v := (M c0 4)) (by rw [Fr.e hF_N_65 hk_c0 _ rfl]) rfl ?_
      have hk_78 : kd (M c0 4) = 35 := Inv.r hI_M hk_c0 rfl 4 rfl rfl
      refine kx_aload_n 15 F 0 dX6_clear_14 rfl rfl rfl ?_
      refine kx_getr 18 F fl_X6_15 hk_c0 rfl rfl (j := 1) rfl dX6_clear_15 (v := (M c0 1)) (by rw [Fr.e hF_N_65 hk_c0 _ rfl]) rfl ?_
      have hk_79 : kd (M c0 1) = 32 := Inv.r hI_M hk_c0 rfl 1 rfl rfl
      refine kx_iload_n 19 F 1 dX6_clear_18 rfl rfl rfl ?_
      refine kx_iald 20 F hk_79 rfl rfl (by omega) (by decide) dX6_clear_19 (v := (M (M c0 1) x1_64)) (by rw [Fr.e hF_N_65 hk_79 _ rfl]) rfl ?_
      have h_80 := Inv.g hI_M hk_79 rfl x1_64 (a := 0) (b := 47) rfl rfl
      refine kx_iconst 21 F dX6_clear_20 rfl ?_
      refine kx_iast 22 F hk_78 rfl rfl (by omega) (by decide) dX6_clear_21 rfl ?_
      intro N_81 hM_N_81
      have hI_N_81 : Inv false N_81 := Inv.u hI_N_65 hM_N_81 hk_78 (a := 0) (b := 2) rfl rfl rfl (by omega)
      have hF_N_81 : Fr f_c_X6_clearB M N_81 := Fr.u hF_N_65 hM_N_81 hk_78 rfl
      refine kx_iinc 25 F 1 (v := x1_64 + 1) (lo' := [some (vR G c0), some (vI (x1_64 + 1))]) dX6_clear_22 rfl (by omega) (by decide) rfl rfl rfl ?_
      refine kx_goto 2 F dX6_clear_25 (by decide) ?_
      exact ih_68 _ (by omega) (x1_64 + 1) N_81 hI_N_81 hF_N_81 (ShCl.step hp_71 (by rw [hM_N_81, mu_k hk_c0 hk_78 rfl]) (by rw [hM_N_81, mu_k hk_c0 hk_78 rfl]) (by rw [hM_N_81, mu_k hk_c0 hk_78 rfl]) (fun i => by rw [hM_N_81, mu_k hk_79 hk_78 rfl]) (fun i => by rw [hM_N_81, mu_at])) (by omega) rfl
  exact L_66 _ 0 M hI_M hF_M (ShCl.start (hX_M.2.2.1 c0 hk_c0)) (by omega) rfl
set_option maxHeartbeats 4000000 in
set_option maxRecDepth 100000 in
theorem c_X6_nearestC (G : KG) (l : Launch) (M : Mem) (c0 : Int) (hI_M : Inv false M) (hk_c0 : kd c0 = 36) : KC false G l yX6_nearest cX6_nearest 4 (some .int) (0, 0) [vR G c0] M (fun A => kQi false G A (fun (r : Int) (N : Mem) => M = N ∧ (r ≥ -1 ∧ r ≤ 1000000000))) := by
  refine kx_met (lo := [some (vR G c0), none, none, none]) (by decide) (Nat.le_of_ble_eq_true rfl) rfl ?_
  intro X F hQ
  refine kx_iconst 1 F dX6_nearest_0 rfl ?_
  refine kx_istore_n 2 F 1 (lo' := [some (vR G c0), some (vI (-1)), none, none]) dX6_nearest_1 rfl (by decide) rfl rfl rfl ?_
  refine kx_iconst 3 F dX6_nearest_2 rfl ?_
  refine kx_istore_n 4 F 2 (lo' := [some (vR G c0), some (vI (-1)), some (vI 0), none]) dX6_nearest_3 rfl (by decide) rfl rfl rfl ?_
  have L_105 : ∀ (n_106 : Nat) (x1_103 : Int) (x2_104 : Int), (-1) ≤ x1_103 ∧ x1_103 ≤ 1000000000 ∧ 0 ≤ x2_104 ∧ x2_104 ≤ 576 → (576 - (x2_104)).toNat = n_106 → KJ false G X M 4 [some (vR G c0), some (vI x1_103), some (vI x2_104), none] [] := by
    intro n_106
    refine Nat.strongRecOn n_106 ?_
    intro n_106 ih_107 x1_103 x2_104 h_108 hm_109
    refine kx_iload_n 5 F 2 dX6_nearest_4 rfl rfl rfl ?_
    refine kx_aload_n 6 F 0 dX6_nearest_5 rfl rfl rfl ?_
    refine kx_geti 9 F fl_X6_30 hk_c0 rfl rfl (j := 0) rfl dX6_nearest_6 (v := (M c0 0)) rfl rfl ?_
    have h_110 := Inv.g hI_M hk_c0 rfl 0 (a := 0) (b := 576) rfl rfl
    refine kx_icmp_ge 12 F 57 dX6_nearest_9 (by decide) rfl (by omega) (by omega) (fun h_111 => ?_) (fun h_111 => ?_)
    · refine kx_iload_n 58 F 1 dX6_nearest_57 rfl rfl rfl ?_
      exact kx_iret F hQ ⟨rfl, (by omega)⟩ dX6_nearest_58
    · refine kx_aload_n 13 F 0 dX6_nearest_12 rfl rfl rfl ?_
      refine kx_getr 16 F fl_X6_15 hk_c0 rfl rfl (j := 1) rfl dX6_nearest_13 (v := (M c0 1)) rfl rfl ?_
      have hk_112 : kd (M c0 1) = 37 := Inv.r hI_M hk_c0 rfl 1 rfl rfl
      refine kx_iload_n 17 F 2 dX6_nearest_16 rfl rfl rfl ?_
      refine kx_iald 18 F hk_112 rfl rfl (by omega) (by decide) dX6_nearest_17 (v := (M (M c0 1) x2_104)) rfl rfl ?_
      have h_113 := Inv.g hI_M hk_112 rfl x2_104 (a := 0) (b := 575) rfl rfl
      refine kx_istore_n 19 F 3 (lo' := [some (vR G c0), some (vI x1_103), some (vI x2_104), some (vI (M (M c0 1) x2_104))]) dX6_nearest_18 rfl (by decide) rfl rfl rfl ?_
      refine kx_aload_n 20 F 0 dX6_nearest_19 rfl rfl rfl ?_
      refine kx_getr 23 F fl_X6_27 hk_c0 rfl rfl (j := 4) rfl dX6_nearest_20 (v := (M c0 4)) rfl rfl ?_
      have hk_114 : kd (M c0 4) = 40 := Inv.r hI_M hk_c0 rfl 4 rfl rfl
      refine kx_iload_n 24 F 3 dX6_nearest_23 rfl rfl rfl ?_
      refine kx_iald 25 F hk_114 rfl rfl (by omega) (by decide) dX6_nearest_24 (v := (M (M c0 4) (M (M c0 1) x2_104))) rfl rfl ?_
      have h_115 := Inv.g hI_M hk_114 rfl (M (M c0 1) x2_104) (a := 0) (b := 2) rfl rfl
      refine kx_iconst 26 F dX6_nearest_25 rfl ?_
      have J_124 : ∀ (x1_123 : Int), (-1) ≤ x1_123 ∧ x1_123 ≤ 1000000000 → KJ false G X M 51 [some (vR G c0), some (vI x1_123), some (vI x2_104), none] [] := by
        intro x1_123 h_125
        refine kx_iinc 54 F 2 (v := x2_104 + 1) (lo' := [some (vR G c0), some (vI x1_123), some (vI (x2_104 + 1)), none]) dX6_nearest_51 rfl (by omega) (by decide) rfl rfl rfl ?_
        refine kx_goto 4 F dX6_nearest_54 (by decide) ?_
        exact ih_107 _ (by omega) x1_123 (x2_104 + 1) (by omega) rfl
      refine kx_icmp_ne 29 F 51 dX6_nearest_26 (by decide) rfl (by omega) (by decide) (fun h_126 => ?_) (fun h_126 => ?_)
      · refine kx_drop 3 (lo' := [some (vR G c0), some (vI x1_103), some (vI x2_104), none]) rfl ?_
        exact J_124 x1_103 (by omega)
      · refine kx_iload_n 30 F 1 dX6_nearest_29 rfl rfl rfl ?_
        refine kx_iconst 31 F dX6_nearest_30 rfl ?_
        have J_131 : KJ false G X M 44 [some (vR G c0), none, some (vI x2_104), some (vI (M (M c0 1) x2_104))] [] := by
          refine kx_aload_n 45 F 0 dX6_nearest_44 rfl rfl rfl ?_
          refine kx_getr 48 F fl_X6_21 hk_c0 rfl rfl (j := 2) rfl dX6_nearest_45 (v := (M c0 2)) rfl rfl ?_
          have hk_133 : kd (M c0 2) = 38 := Inv.r hI_M hk_c0 rfl 2 rfl rfl
          refine kx_iload_n 49 F 3 dX6_nearest_48 rfl rfl rfl ?_
          refine kx_iald 50 F hk_133 rfl rfl (by omega) (by decide) dX6_nearest_49 (v := (M (M c0 2) (M (M c0 1) x2_104))) rfl rfl ?_
          have h_134 := Inv.g hI_M hk_133 rfl (M (M c0 1) x2_104) (a := 0) (b := 1000000000) rfl rfl
          refine kx_istore_n 51 F 1 (lo' := [some (vR G c0), some (vI (M (M c0 2) (M (M c0 1) x2_104))), some (vI x2_104), some (vI (M (M c0 1) x2_104))]) dX6_nearest_50 rfl (by decide) rfl rfl rfl ?_
          refine kx_drop 3 (lo' := [some (vR G c0), some (vI (M (M c0 2) (M (M c0 1) x2_104))), some (vI x2_104), none]) rfl ?_
          exact J_124 (M (M c0 2) (M (M c0 1) x2_104)) (by omega)
        refine kx_icmp_eq 34 F 44 dX6_nearest_31 (by decide) rfl (by omega) (by decide) (fun h_135 => ?_) (fun h_135 => ?_)
        · refine kx_drop 1 (lo' := [some (vR G c0), none, some (vI x2_104), some (vI (M (M c0 1) x2_104))]) rfl ?_
          exact J_131 
        · refine kx_aload_n 35 F 0 dX6_nearest_34 rfl rfl rfl ?_
          refine kx_getr 38 F fl_X6_21 hk_c0 rfl rfl (j := 2) rfl dX6_nearest_35 (v := (M c0 2)) rfl rfl ?_
          have hk_136 : kd (M c0 2) = 38 := Inv.r hI_M hk_c0 rfl 2 rfl rfl
          refine kx_iload_n 39 F 3 dX6_nearest_38 rfl rfl rfl ?_
          refine kx_iald 40 F hk_136 rfl rfl (by omega) (by decide) dX6_nearest_39 (v := (M (M c0 2) (M (M c0 1) x2_104))) rfl rfl ?_
          have h_137 := Inv.g hI_M hk_136 rfl (M (M c0 1) x2_104) (a := 0) (b := 1000000000) rfl rfl
          refine kx_iload_n 41 F 1 dX6_nearest_40 rfl rfl rfl ?_
          refine kx_icmp_ge 44 F 51 dX6_nearest_41 (by decide) rfl (by omega) (by omega) (fun h_138 => ?_) (fun h_138 => ?_)
          · refine kx_drop 3 (lo' := [some (vR G c0), some (vI x1_103), some (vI x2_104), none]) rfl ?_
            exact J_124 x1_103 (by omega)
          · refine kx_drop 1 (lo' := [some (vR G c0), none, some (vI x2_104), some (vI (M (M c0 1) x2_104))]) rfl ?_
            exact J_131 
  exact L_105 _ (-1) 0 (by omega) rfl
set_option maxHeartbeats 4000000 in
set_option maxRecDepth 100000 in
theorem c_X6_isClosedC (G : KG) (l : Launch) (M : Mem) (c0 a1 : Int) (hI_M : Inv false M) (hk_c0 : kd c0 = 36) (hpre : -2147483648 ≤ a1 ∧ a1 ≤ 2147483647) : KC false G l yX6_isClosed cX6_isClosed 2 (some .boolean) (0, 0) [vR G c0, vI a1] M (fun A => kQi false G A (fun (r : Int) (N : Mem) => M = N ∧ ((r = 1 ∧ 0 ≤ a1 ∧ a1 ≤ 575) ∨ (r = 0)))) := by
  refine kx_met (lo := [some (vR G c0), some (vI a1)]) (by decide) (Nat.le_of_ble_eq_true rfl) rfl ?_
  intro X F hQ
  refine kx_iload_n 1 F 1 dX6_isClosed_0 rfl rfl rfl ?_
  refine kx_if_lt 4 F 27 dX6_isClosed_1 (by decide) rfl (by omega) (fun h_1 => ?_) (fun h_1 => ?_)
  · refine kx_iconst 28 F dX6_isClosed_27 rfl ?_
    exact kx_zret F hQ (by omega) ⟨rfl, (by omega)⟩ dX6_isClosed_28
  · refine kx_iload_n 5 F 1 dX6_isClosed_4 rfl rfl rfl ?_
    refine kx_aload_n 6 F 0 dX6_isClosed_5 rfl rfl rfl ?_
    refine kx_getr 9 F fl_X6_27 hk_c0 rfl rfl (j := 4) rfl dX6_isClosed_6 (v := (M c0 4)) rfl rfl ?_
    have hk_2 : kd (M c0 4) = 40 := Inv.r hI_M hk_c0 rfl 4 rfl rfl
    refine kx_alen 10 F hk_2 rfl rfl (z := 576) (by decide) dX6_isClosed_9 rfl ?_
    refine kx_icmp_ge 13 F 27 dX6_isClosed_10 (by decide) rfl (by omega) (by decide) (fun h_3 => ?_) (fun h_3 => ?_)
    · refine kx_iconst 28 F dX6_isClosed_27 rfl ?_
      exact kx_zret F hQ (by omega) ⟨rfl, (by omega)⟩ dX6_isClosed_28
    · refine kx_aload_n 14 F 0 dX6_isClosed_13 rfl rfl rfl ?_
      refine kx_getr 17 F fl_X6_27 hk_c0 rfl rfl (j := 4) rfl dX6_isClosed_14 (v := (M c0 4)) rfl rfl ?_
      refine kx_iload_n 18 F 1 dX6_isClosed_17 rfl rfl rfl ?_
      refine kx_iald 19 F hk_2 rfl rfl (by omega) (by decide) dX6_isClosed_18 (v := (M (M c0 4) a1)) rfl rfl ?_
      have h_4 := Inv.g hI_M hk_2 rfl a1 (a := 0) (b := 2) rfl rfl
      refine kx_iconst 20 F dX6_isClosed_19 rfl ?_
      refine kx_icmp_ne 23 F 27 dX6_isClosed_20 (by decide) rfl (by omega) (by decide) (fun h_5 => ?_) (fun h_5 => ?_)
      · refine kx_iconst 28 F dX6_isClosed_27 rfl ?_
        exact kx_zret F hQ (by omega) ⟨rfl, (by omega)⟩ dX6_isClosed_28
      · refine kx_iconst 24 F dX6_isClosed_23 rfl ?_
        refine kx_goto 28 F dX6_isClosed_24 (by decide) ?_
        exact kx_zret F hQ (by omega) ⟨rfl, (by omega)⟩ dX6_isClosed_28
abbrev f_c_X6_offerC : List (Nat × Int) := [(36, 0), (37, -1), (38, -1), (39, -1), (40, -1)]
set_option maxHeartbeats 4000000 in
set_option maxRecDepth 100000 in
theorem c_X6_offerC (G : KG) (l : Launch) (M : Mem) (c0 a1 a2 a3 : Int) (hI_M : Inv false M) (hk_c0 : kd c0 = 36) (hpre : -2147483648 ≤ a1 ∧ a1 ≤ 2147483647 ∧ -2147483648 ≤ a2 ∧ a2 ≤ 2147483647 ∧ -2147483648 ≤ a3 ∧ a3 ≤ 2147483647 ∧ 0 ≤ a2 ∧ a2 ≤ 1000000000) (hX_M : XX M) : KC false G l yX6_offer cX6_offer 4 none (1, 23) [vR G c0, vI a1, vI a2, vI a3] M (fun A => kQv false G A (fun (N : Mem) => Inv false N ∧ Fr f_c_X6_offerC M N ∧ XX N)) := by
  refine kx_met (lo := [some (vR G c0), some (vI a1), some (vI a2), some (vI a3)]) (by decide) (Nat.le_of_ble_eq_true rfl) rfl ?_
  intro X F hQ
  have hF_M : Fr f_c_X6_offerC M M := Fr.rf _ _
  refine kx_iload_n 1 F 1 dX6_offer_0 rfl rfl rfl ?_
  refine kx_if_lt 4 F 23 dX6_offer_1 (by decide) rfl (by omega) (fun h_1 => ?_) (fun h_1 => ?_)
  · exact kx_vret F hQ ⟨hI_M, hF_M, hX_M⟩ dX6_offer_23
  · refine kx_iload_n 5 F 1 dX6_offer_4 rfl rfl rfl ?_
    refine kx_aload_n 6 F 0 dX6_offer_5 rfl rfl rfl ?_
    refine kx_getr 9 F fl_X6_27 hk_c0 rfl rfl (j := 4) rfl dX6_offer_6 (v := (M c0 4)) rfl rfl ?_
    have hk_2 : kd (M c0 4) = 40 := Inv.r hI_M hk_c0 rfl 4 rfl rfl
    refine kx_alen 10 F hk_2 rfl rfl (z := 576) (by decide) dX6_offer_9 rfl ?_
    refine kx_icmp_ge 13 F 23 dX6_offer_10 (by decide) rfl (by omega) (by decide) (fun h_3 => ?_) (fun h_3 => ?_)
    · exact kx_vret F hQ ⟨hI_M, hF_M, hX_M⟩ dX6_offer_23
    · refine kx_aload_n 14 F 0 dX6_offer_13 rfl rfl rfl ?_
      refine kx_getr 17 F fl_X6_27 hk_c0 rfl rfl (j := 4) rfl dX6_offer_14 (v := (M c0 4)) rfl rfl ?_
      refine kx_iload_n 18 F 1 dX6_offer_17 rfl rfl rfl ?_
      refine kx_iald 19 F hk_2 rfl rfl (by omega) (by decide) dX6_offer_18 (v := (M (M c0 4) a1)) rfl rfl ?_
      have h_4 := Inv.g hI_M hk_2 rfl a1 (a := 0) (b := 2) rfl rfl
      refine kx_iconst 20 F dX6_offer_19 rfl ?_
      refine kx_icmp_ne 23 F 24 dX6_offer_20 (by decide) rfl (by omega) (by decide) (fun h_5 => ?_) (fun h_5 => ?_)
      · refine kx_aload_n 25 F 0 dX6_offer_24 rfl rfl rfl ?_
        refine kx_getr 28 F fl_X6_27 hk_c0 rfl rfl (j := 4) rfl dX6_offer_25 (v := (M c0 4)) rfl rfl ?_
        refine kx_iload_n 29 F 1 dX6_offer_28 rfl rfl rfl ?_
        refine kx_iald 30 F hk_2 rfl rfl (by omega) (by decide) dX6_offer_29 (v := (M (M c0 4) a1)) rfl rfl ?_
        refine kx_if_ne 33 F 63 dX6_offer_30 (by decide) rfl (by omega) (fun h_6 => ?_) (fun h_6 => ?_)
        · refine kx_iload_n 64 F 2 dX6_offer_63 rfl rfl rfl ?_
          refine kx_iload_n 65 F 3 dX6_offer_64 rfl rfl rfl ?_
          refine kx_aload_n 66 F 0 dX6_offer_65 rfl rfl rfl ?_
          refine kx_getr 69 F fl_X6_21 hk_c0 rfl rfl (j := 2) rfl dX6_offer_66 (v := (M c0 2)) rfl rfl ?_
          have hk_7 : kd (M c0 2) = 38 := Inv.r hI_M hk_c0 rfl 2 rfl rfl
          refine kx_iload_n 70 F 1 dX6_offer_69 rfl rfl rfl ?_
          refine kx_iald 71 F hk_7 rfl rfl (by omega) (by decide) dX6_offer_70 (v := (M (M c0 2) a1)) rfl rfl ?_
          have h_8 := Inv.g hI_M hk_7 rfl a1 (a := 0) (b := 1000000000) rfl rfl
          refine kx_aload_n 72 F 0 dX6_offer_71 rfl rfl rfl ?_
          refine kx_getr 75 F fl_X6_24 hk_c0 rfl rfl (j := 3) rfl dX6_offer_72 (v := (M c0 3)) rfl rfl ?_
          have hk_9 : kd (M c0 3) = 39 := Inv.r hI_M hk_c0 rfl 3 rfl rfl
          refine kx_iload_n 76 F 1 dX6_offer_75 rfl rfl rfl ?_
          refine kx_iald 77 F hk_9 rfl rfl (by omega) (by decide) dX6_offer_76 (v := (M (M c0 3) a1)) rfl rfl ?_
          have h_10 := Inv.g hI_M hk_9 rfl a1 (a := (-2147483648)) (b := 2147483647) rfl rfl
          refine kx_Si 80 F (As := [vI a2, vI a3, vI (M (M c0 2) a1), vI (M (M c0 3) a1)]) (st := []) sd_X6_34 (c_X6_isBefore G l M a2 a3 (M (M c0 2) a1) (M (M c0 3) a1) hI_M (by omega)) ⟨by decide, by decide⟩ rfl rfl (Nat.le_of_ble_eq_true rfl) dX6_offer_77 rfl ?_
          intro r_11 N_12 q_13
          obtain ⟨rfl, q_13c⟩ := q_13
          refine kx_if_ne 83 F 84 dX6_offer_80 (by decide) rfl (by omega) (fun h_14 => ?_) (fun h_14 => ?_)
          · refine kx_aload_n 85 F 0 dX6_offer_84 rfl rfl rfl ?_
            refine kx_getr 88 F fl_X6_21 hk_c0 rfl rfl (j := 2) rfl dX6_offer_85 (v := (M c0 2)) rfl rfl ?_
            refine kx_iload_n 89 F 1 dX6_offer_88 rfl rfl rfl ?_
            refine kx_iload_n 90 F 2 dX6_offer_89 rfl rfl rfl ?_
            refine kx_iast 91 F hk_7 rfl rfl (by omega) (by decide) dX6_offer_90 rfl ?_
            intro N_15 hM_N_15
            have hI_N_15 : Inv false N_15 := Inv.u hI_M hM_N_15 hk_7 (a := 0) (b := 1000000000) rfl rfl rfl (by omega)
            have hF_N_15 : Fr f_c_X6_offerC M N_15 := Fr.u hF_M hM_N_15 hk_7 rfl
            have hX_N_15 : XX N_15 := XX.st hX_M hI_M hM_N_15 hk_7 rfl
            refine kx_aload_n 92 F 0 dX6_offer_91 rfl rfl rfl ?_
            refine kx_getr 95 F fl_X6_24 hk_c0 rfl rfl (j := 3) rfl dX6_offer_92 (v := (M c0 3)) (by rw [hM_N_15, mu_k hk_c0 hk_7 rfl]) rfl ?_
            refine kx_iload_n 96 F 1 dX6_offer_95 rfl rfl rfl ?_
            refine kx_iload_n 97 F 3 dX6_offer_96 rfl rfl rfl ?_
            refine kx_iast 98 F hk_9 rfl rfl (by omega) (by decide) dX6_offer_97 rfl ?_
            intro N_16 hM_N_16
            have hI_N_16 : Inv false N_16 := Inv.u hI_N_15 hM_N_16 hk_9 (a := (-2147483648)) (b := 2147483647) rfl rfl rfl (by omega)
            have hF_N_16 : Fr f_c_X6_offerC M N_16 := Fr.u hF_N_15 hM_N_16 hk_9 rfl
            have hX_N_16 : XX N_16 := XX.st hX_N_15 hI_N_15 hM_N_16 hk_9 rfl
            exact kx_vret F hQ ⟨hI_N_16, hF_N_16, hX_N_16⟩ dX6_offer_98
          · exact kx_vret F hQ ⟨hI_M, hF_M, hX_M⟩ dX6_offer_83
        · have hk_17 : kd (M c0 1) = 37 := Inv.r hI_M hk_c0 rfl 1 rfl rfl
          have h_18 := Inv.g hI_M hk_c0 rfl 0 (a := 0) (b := 576) rfl rfl
          have h_19 : M c0 0 < 576 := ShOK.lt (hX_M.2.2.2 c0 hk_c0) (by omega) (fun i => by have := Inv.g hI_M hk_17 rfl i (a := 0) (b := 575) rfl rfl; omega) (m := a1) (by omega) (by omega)
          refine kx_aload_n 34 F 0 dX6_offer_33 rfl rfl rfl ?_
          refine kx_getr 37 F fl_X6_27 hk_c0 rfl rfl (j := 4) rfl dX6_offer_34 (v := (M c0 4)) rfl rfl ?_
          refine kx_iload_n 38 F 1 dX6_offer_37 rfl rfl rfl ?_
          refine kx_iconst 39 F dX6_offer_38 rfl ?_
          refine kx_iast 40 F hk_2 rfl rfl (by omega) (by decide) dX6_offer_39 rfl ?_
          intro N_20 hM_N_20
          have hI_N_20 : Inv false N_20 := Inv.u hI_M hM_N_20 hk_2 (a := 0) (b := 2) rfl rfl rfl (by omega)
          have hF_N_20 : Fr f_c_X6_offerC M N_20 := Fr.u hF_M hM_N_20 hk_2 rfl
          refine kx_aload_n 41 F 0 dX6_offer_40 rfl rfl rfl ?_
          refine kx_getr 44 F fl_X6_15 hk_c0 rfl rfl (j := 1) rfl dX6_offer_41 (v := (M c0 1)) (by rw [hM_N_20, mu_k hk_c0 hk_2 rfl]) rfl ?_
          refine kx_aload_n 45 F 0 dX6_offer_44 rfl rfl rfl ?_
          refine kx_geti 48 F fl_X6_30 hk_c0 rfl rfl (j := 0) rfl dX6_offer_45 (v := (M c0 0)) (by rw [hM_N_20, mu_k hk_c0 hk_2 rfl]) rfl ?_
          refine kx_iload_n 49 F 1 dX6_offer_48 rfl rfl rfl ?_
          refine kx_iast 50 F hk_17 rfl rfl (by omega) (by decide) dX6_offer_49 rfl ?_
          intro N_21 hM_N_21
          have hI_N_21 : Inv false N_21 := Inv.u hI_N_20 hM_N_21 hk_17 (a := 0) (b := 575) rfl rfl rfl (by omega)
          have hF_N_21 : Fr f_c_X6_offerC M N_21 := Fr.u hF_N_20 hM_N_21 hk_17 rfl
          refine kx_aload_n 51 F 0 dX6_offer_50 rfl rfl rfl ?_
          refine kx_dup 52 F dX6_offer_51 rfl rfl ?_
          refine kx_geti 55 F fl_X6_30 hk_c0 rfl rfl (j := 0) rfl dX6_offer_52 (v := (M c0 0)) (by rw [hM_N_21, mu_k hk_c0 hk_17 rfl, hM_N_20, mu_k hk_c0 hk_2 rfl]) rfl ?_
          refine kx_iconst 56 F dX6_offer_55 rfl ?_
          refine kx_iadd 57 F (v := (M c0 0) + 1) dX6_offer_56 rfl rfl ?_
          refine kx_puti 60 F fw_X6_30 rfl hk_c0 rfl rfl (j := 0) rfl dX6_offer_57 rfl ?_
          intro N_22 hM_N_22
          have hI_N_22 : Inv false N_22 := Inv.u hI_N_21 hM_N_22 hk_c0 (a := 0) (b := 576) rfl rfl rfl (by omega)
          have hF_N_22 : Fr f_c_X6_offerC M N_22 := Fr.u hF_N_21 hM_N_22 hk_c0 rfl
          have hs_N_22 : ShOK 576 N_22 c0 := ShOK.ins (hX_M.2.2.2 c0 hk_c0) (m := a1) (by omega) (by omega) (by rw [hM_N_22, mu_s]) (by rw [hM_N_22, mu_i (by omega), hM_N_21, mu_k hk_c0 hk_17 rfl, hM_N_20, mu_k hk_c0 hk_2 rfl]) (by rw [hM_N_22, mu_i (by omega), hM_N_21, mu_k hk_c0 hk_17 rfl, hM_N_20, mu_k hk_c0 hk_2 rfl]) (fun i => by rw [hM_N_22, mu_k hk_17 hk_c0 rfl, hM_N_21, mu_at, hM_N_20, mu_k hk_17 hk_2 rfl]) (fun i => by rw [hM_N_22, mu_k hk_2 hk_c0 rfl, hM_N_21, mu_k hk_2 hk_17 rfl, hM_N_20, mu_at])
          have hX_N_22 : XX N_22 := XX.shC hX_M hI_M hF_N_22 rfl hk_c0 hs_N_22
          refine kx_goto 84 F dX6_offer_60 (by decide) ?_
          refine kx_aload_n 85 F 0 dX6_offer_84 rfl rfl rfl ?_
          refine kx_getr 88 F fl_X6_21 hk_c0 rfl rfl (j := 2) rfl dX6_offer_85 (v := (M c0 2)) (by rw [hM_N_22, mu_i (by omega), hM_N_21, mu_k hk_c0 hk_17 rfl, hM_N_20, mu_k hk_c0 hk_2 rfl]) rfl ?_
          have hk_23 : kd (M c0 2) = 38 := Inv.r hI_M hk_c0 rfl 2 rfl rfl
          refine kx_iload_n 89 F 1 dX6_offer_88 rfl rfl rfl ?_
          refine kx_iload_n 90 F 2 dX6_offer_89 rfl rfl rfl ?_
          refine kx_iast 91 F hk_23 rfl rfl (by omega) (by decide) dX6_offer_90 rfl ?_
          intro N_24 hM_N_24
          have hI_N_24 : Inv false N_24 := Inv.u hI_N_22 hM_N_24 hk_23 (a := 0) (b := 1000000000) rfl rfl rfl (by omega)
          have hF_N_24 : Fr f_c_X6_offerC M N_24 := Fr.u hF_N_22 hM_N_24 hk_23 rfl
          have hX_N_24 : XX N_24 := XX.st hX_N_22 hI_N_22 hM_N_24 hk_23 rfl
          refine kx_aload_n 92 F 0 dX6_offer_91 rfl rfl rfl ?_
          refine kx_getr 95 F fl_X6_24 hk_c0 rfl rfl (j := 3) rfl dX6_offer_92 (v := (M c0 3)) (by rw [hM_N_24, mu_k hk_c0 hk_23 rfl, hM_N_22, mu_i (by omega), hM_N_21, mu_k hk_c0 hk_17 rfl, hM_N_20, mu_k hk_c0 hk_2 rfl]) rfl ?_
          have hk_25 : kd (M c0 3) = 39 := Inv.r hI_M hk_c0 rfl 3 rfl rfl
          refine kx_iload_n 96 F 1 dX6_offer_95 rfl rfl rfl ?_
          refine kx_iload_n 97 F 3 dX6_offer_96 rfl rfl rfl ?_
          refine kx_iast 98 F hk_25 rfl rfl (by omega) (by decide) dX6_offer_97 rfl ?_
          intro N_26 hM_N_26
          have hI_N_26 : Inv false N_26 := Inv.u hI_N_24 hM_N_26 hk_25 (a := (-2147483648)) (b := 2147483647) rfl rfl rfl (by omega)
          have hF_N_26 : Fr f_c_X6_offerC M N_26 := Fr.u hF_N_24 hM_N_26 hk_25 rfl
          have hX_N_26 : XX N_26 := XX.st hX_N_24 hI_N_24 hM_N_26 hk_25 rfl
          exact kx_vret F hQ ⟨hI_N_26, hF_N_26, hX_N_26⟩ dX6_offer_98
      · exact kx_vret F hQ ⟨hI_M, hF_M, hX_M⟩ dX6_offer_23
abbrev f_c_X6_closesC : List (Nat × Int) := [(40, -1)]
set_option maxHeartbeats 4000000 in
set_option maxRecDepth 100000 in
theorem c_X6_closesC (G : KG) (l : Launch) (M : Mem) (c0 a1 a2 : Int) (hI_M : Inv false M) (hk_c0 : kd c0 = 36) (hpre : -2147483648 ≤ a1 ∧ a1 ≤ 2147483647 ∧ -2147483648 ≤ a2 ∧ a2 ≤ 2147483647 ∧ 0 ≤ a1 ∧ a1 ≤ 575) (hX_M : XX M) : KC false G l yX6_closes cX6_closes 3 (some .boolean) (0, 0) [vR G c0, vI a1, vI a2] M (fun A => kQi false G A (fun (r : Int) (N : Mem) => Inv false N ∧ Fr f_c_X6_closesC M N ∧ (0 ≤ r ∧ r ≤ 1) ∧ XX N)) := by
  refine kx_met (lo := [some (vR G c0), some (vI a1), some (vI a2)]) (by decide) (Nat.le_of_ble_eq_true rfl) rfl ?_
  intro X F hQ
  have hF_M : Fr f_c_X6_closesC M M := Fr.rf _ _
  refine kx_aload_n 1 F 0 dX6_closes_0 rfl rfl rfl ?_
  refine kx_getr 4 F fl_X6_27 hk_c0 rfl rfl (j := 4) rfl dX6_closes_1 (v := (M c0 4)) rfl rfl ?_
  have hk_1 : kd (M c0 4) = 40 := Inv.r hI_M hk_c0 rfl 4 rfl rfl
  refine kx_iload_n 5 F 1 dX6_closes_4 rfl rfl rfl ?_
  refine kx_iald 6 F hk_1 rfl rfl (by omega) (by decide) dX6_closes_5 (v := (M (M c0 4) a1)) rfl rfl ?_
  have h_2 := Inv.g hI_M hk_1 rfl a1 (a := 0) (b := 2) rfl rfl
  refine kx_iconst 7 F dX6_closes_6 rfl ?_
  refine kx_icmp_ne 10 F 20 dX6_closes_7 (by decide) rfl (by omega) (by decide) (fun h_3 => ?_) (fun h_3 => ?_)
  · refine kx_iconst 21 F dX6_closes_20 rfl ?_
    exact kx_zret F hQ (by omega) ⟨hI_M, hF_M, (by omega), hX_M⟩ dX6_closes_21
  · refine kx_aload_n 11 F 0 dX6_closes_10 rfl rfl rfl ?_
    refine kx_getr 14 F fl_X6_21 hk_c0 rfl rfl (j := 2) rfl dX6_closes_11 (v := (M c0 2)) rfl rfl ?_
    have hk_4 : kd (M c0 2) = 38 := Inv.r hI_M hk_c0 rfl 2 rfl rfl
    refine kx_iload_n 15 F 1 dX6_closes_14 rfl rfl rfl ?_
    refine kx_iald 16 F hk_4 rfl rfl (by omega) (by decide) dX6_closes_15 (v := (M (M c0 2) a1)) rfl rfl ?_
    have h_5 := Inv.g hI_M hk_4 rfl a1 (a := 0) (b := 1000000000) rfl rfl
    refine kx_iload_n 17 F 2 dX6_closes_16 rfl rfl rfl ?_
    refine kx_icmp_eq 20 F 22 dX6_closes_17 (by decide) rfl (by omega) (by omega) (fun h_6 => ?_) (fun h_6 => ?_)
    · refine kx_aload_n 23 F 0 dX6_closes_22 rfl rfl rfl ?_
      refine kx_getr 26 F fl_X6_27 hk_c0 rfl rfl (j := 4) rfl dX6_closes_23 (v := (M c0 4)) rfl rfl ?_
      refine kx_iload_n 27 F 1 dX6_closes_26 rfl rfl rfl ?_
      refine kx_iconst 28 F dX6_closes_27 rfl ?_
      refine kx_iast 29 F hk_1 rfl rfl (by omega) (by decide) dX6_closes_28 rfl ?_
      intro N_7 hM_N_7
      have hI_N_7 : Inv false N_7 := Inv.u hI_M hM_N_7 hk_1 (a := 0) (b := 2) rfl rfl rfl (by omega)
      have hF_N_7 : Fr f_c_X6_closesC M N_7 := Fr.u hF_M hM_N_7 hk_1 rfl
      have hk_8 : kd (M c0 1) = 37 := Inv.r hI_M hk_c0 rfl 1 rfl rfl
      have hs_N_7 : ShOK 576 N_7 c0 := ShOK.mood (hX_M.2.2.2 c0 hk_c0) (m := a1) (v := 2) (by omega) (by decide) (by rw [hM_N_7, mu_k hk_c0 hk_1 rfl]) (by rw [hM_N_7, mu_k hk_c0 hk_1 rfl]) (by rw [hM_N_7, mu_k hk_c0 hk_1 rfl]) (fun i => by rw [hM_N_7, mu_k hk_8 hk_1 rfl]) (fun i => by rw [hM_N_7, mu_at])
      have hX_N_7 : XX N_7 := XX.shC hX_M hI_M hF_N_7 rfl hk_c0 hs_N_7
      refine kx_iconst 30 F dX6_closes_29 rfl ?_
      exact kx_zret F hQ (by omega) ⟨hI_N_7, hF_N_7, (by omega), hX_N_7⟩ dX6_closes_30
    · refine kx_iconst 21 F dX6_closes_20 rfl ?_
      exact kx_zret F hQ (by omega) ⟨hI_M, hF_M, (by omega), hX_M⟩ dX6_closes_21
abbrev f_c_X6_clearC : List (Nat × Int) := [(36, 0), (40, -1)]
set_option maxHeartbeats 4000000 in
set_option maxRecDepth 100000 in
theorem c_X6_clearC (G : KG) (l : Launch) (M : Mem) (c0 : Int) (hI_M : Inv false M) (hk_c0 : kd c0 = 36) (hX_M : XX M) : KC false G l yX6_clear cX6_clear 2 none (0, 0) [vR G c0] M (fun A => kQv false G A (fun (N : Mem) => Inv false N ∧ Fr f_c_X6_clearC M N ∧ XX N)) := by
  refine kx_met (lo := [some (vR G c0), none]) (by decide) (Nat.le_of_ble_eq_true rfl) rfl ?_
  intro X F hQ
  have hF_M : Fr f_c_X6_clearC M M := Fr.rf _ _
  refine kx_iconst 1 F dX6_clear_0 rfl ?_
  refine kx_istore_n 2 F 1 (lo' := [some (vR G c0), some (vI 0)]) dX6_clear_1 rfl (by decide) rfl rfl rfl ?_
  have L_66 : ∀ (n_67 : Nat) (x1_64 : Int) (N_65 : Mem), Inv false N_65 → Fr f_c_X6_clearC M N_65 → ShCl 576 M N_65 c0 x1_64 → 0 ≤ x1_64 ∧ x1_64 ≤ 576 → (576 - (x1_64)).toNat = n_67 → KJ false G X N_65 2 [some (vR G c0), some (vI x1_64)] [] := by
    intro n_67
    refine Nat.strongRecOn n_67 ?_
    intro n_67 ih_68 x1_64 N_65 hI_N_65 hF_N_65 hp_71 h_69 hm_70
    refine kx_iload_n 3 F 1 dX6_clear_2 rfl rfl rfl ?_
    refine kx_aload_n 4 F 0 dX6_clear_3 rfl rfl rfl ?_
    refine kx_geti 7 F fl_X6_30 hk_c0 rfl rfl (j := 0) rfl dX6_clear_4 (v := (N_65 c0 0)) rfl rfl ?_
    have h_72 := Inv.g hI_N_65 hk_c0 rfl 0 (a := 0) (b := 576) rfl rfl
    refine kx_icmp_ge 10 F 28 dX6_clear_7 (by decide) rfl (by omega) (by omega) (fun h_73 => ?_) (fun h_73 => ?_)
    · refine kx_aload_n 29 F 0 dX6_clear_28 rfl rfl rfl ?_
      refine kx_iconst 30 F dX6_clear_29 rfl ?_
      refine kx_puti 33 F fw_X6_30 rfl hk_c0 rfl rfl (j := 0) rfl dX6_clear_30 rfl ?_
      intro N_74 hM_N_74
      have hI_N_74 : Inv false N_74 := Inv.u hI_N_65 hM_N_74 hk_c0 (a := 0) (b := 576) rfl rfl rfl (by omega)
      have hF_N_74 : Fr f_c_X6_clearC M N_74 := Fr.u hF_N_65 hM_N_74 hk_c0 rfl
      have hk_75 : kd (M c0 1) = 37 := Inv.r hI_M hk_c0 rfl 1 rfl rfl
      have hk_76 : kd (M c0 4) = 40 := Inv.r hI_M hk_c0 rfl 4 rfl rfl
      have h_77 := hp_71.1
      have hs_N_74 : ShOK 576 N_74 c0 := ShCl.done hp_71 (by omega) (by rw [hM_N_74, mu_s]) (by rw [hM_N_74, mu_i (by omega)]) (by rw [hM_N_74, mu_i (by omega)]) (fun i => by rw [hM_N_74, mu_k hk_76 hk_c0 rfl])
      have hX_N_74 : XX N_74 := XX.shC hX_M hI_M hF_N_74 rfl hk_c0 hs_N_74
      exact kx_vret F hQ ⟨hI_N_74, hF_N_74, hX_N_74⟩ dX6_clear_33
    · refine kx_aload_n 11 F 0 dX6_clear_10 rfl rfl rfl ?_
      refine kx_getr 14 F fl_X6_27 hk_c0 rfl rfl (j := 4) rfl dX6_clear_11 (v := (M c0 4)) (by rw [Fr.e hF_N_65 hk_c0 _ rfl]) rfl ?_
      have hk_78 : kd (M c0 4) = 40 := Inv.r hI_M hk_c0 rfl 4 rfl rfl
      refine kx_aload_n 15 F 0 dX6_clear_14 rfl rfl rfl ?_
      refine kx_getr 18 F fl_X6_15 hk_c0 rfl rfl (j := 1) rfl dX6_clear_15 (v := (M c0 1)) (by rw [Fr.e hF_N_65 hk_c0 _ rfl]) rfl ?_
      have hk_79 : kd (M c0 1) = 37 := Inv.r hI_M hk_c0 rfl 1 rfl rfl
      refine kx_iload_n 19 F 1 dX6_clear_18 rfl rfl rfl ?_
      refine kx_iald 20 F hk_79 rfl rfl (by omega) (by decide) dX6_clear_19 (v := (M (M c0 1) x1_64)) (by rw [Fr.e hF_N_65 hk_79 _ rfl]) rfl ?_
      have h_80 := Inv.g hI_M hk_79 rfl x1_64 (a := 0) (b := 575) rfl rfl
      refine kx_iconst 21 F dX6_clear_20 rfl ?_
      refine kx_iast 22 F hk_78 rfl rfl (by omega) (by decide) dX6_clear_21 rfl ?_
      intro N_81 hM_N_81
      have hI_N_81 : Inv false N_81 := Inv.u hI_N_65 hM_N_81 hk_78 (a := 0) (b := 2) rfl rfl rfl (by omega)
      have hF_N_81 : Fr f_c_X6_clearC M N_81 := Fr.u hF_N_65 hM_N_81 hk_78 rfl
      refine kx_iinc 25 F 1 (v := x1_64 + 1) (lo' := [some (vR G c0), some (vI (x1_64 + 1))]) dX6_clear_22 rfl (by omega) (by decide) rfl rfl rfl ?_
      refine kx_goto 2 F dX6_clear_25 (by decide) ?_
      exact ih_68 _ (by omega) (x1_64 + 1) N_81 hI_N_81 hF_N_81 (ShCl.step hp_71 (by rw [hM_N_81, mu_k hk_c0 hk_78 rfl]) (by rw [hM_N_81, mu_k hk_c0 hk_78 rfl]) (by rw [hM_N_81, mu_k hk_c0 hk_78 rfl]) (fun i => by rw [hM_N_81, mu_k hk_79 hk_78 rfl]) (fun i => by rw [hM_N_81, mu_at])) (by omega) rfl
  exact L_66 _ 0 M hI_M hF_M (ShCl.start (hX_M.2.2.2 c0 hk_c0)) (by omega) rfl
