set_option maxHeartbeats 4000000 in
set_option maxRecDepth 100000 in
theorem e_X5_couldHave (G : KG) (l : Launch) (M : Mem) (c0 : Int) (c1 : Int) (a2 : Int) (a3 : Int) (a4 : Int) (a5 : Int) (hI_M : Inv false M) (hk_c0 : kd c0 = 12) (hk_c1 : kd c1 = 1) (hpre : -2147483648 ≤ a2 ∧ a2 ≤ 2147483647 ∧ -2147483648 ≤ a3 ∧ a3 ≤ 2147483647 ∧ -2147483648 ≤ a4 ∧ a4 ≤ 2147483647 ∧ -2147483648 ≤ a5 ∧ a5 ≤ 2147483647) : KC false G l yX5_couldHave cX5_couldHave 7 (some .boolean) (2, 42) [vR G c0, vR G c1, vI a2, vI a3, vI a4, vI a5] M (fun A => kQi false G A (fun (r : Int) (N : Mem) => M = N ∧ (r ≥ 0 ∧ r ≤ 1) ∧ (zCO (M c0 0) (M c0 1) (M c0 2) (M c1 0) (M c1 1) a2 a3 a4 a5 r))) := by
  refine kx_met (lo := [some (vR G c0), some (vR G c1), some (vI a2), some (vI a3), some (vI a4), some (vI a5), none]) (by decide) (Nat.le_of_ble_eq_true rfl) rfl ?_
  intro X F hQ
  refine kx_aload_n 1 F 0 dX5_couldHave_0 rfl rfl rfl ?_
  refine kx_iload_n 2 F 2 dX5_couldHave_1 rfl rfl rfl ?_
  refine kx_Vi 5 (ci := 0) F (As := [vI a2]) (st := []) vd_X5_51 (e_X5_hasLetter G l M c0 a2 hI_M hk_c0 (by omega)) hk_c0 rfl rfl rfl ⟨by decide, by decide⟩ rfl rfl (Nat.le_of_ble_eq_true rfl) dX5_couldHave_2 rfl ?_
  intro r_1 N_2 q_3
  obtain ⟨rfl, q_3c⟩ := q_3
  have h_4 := Inv.g hI_M hk_c0 rfl 2 (a := 0) (b := 6) rfl rfl
  rcases q_3c with q_3c | q_3c | q_3c
  · refine kx_if_eq 8 F 25 dX5_couldHave_5 (by decide) rfl (by omega) (fun h_6 => (by exfalso; omega)) (fun h_6 => ?_)
    refine kx_aload_n 9 F 1 dX5_couldHave_8 rfl rfl rfl ?_
    refine kx_iload_n 10 F 3 dX5_couldHave_9 rfl rfl rfl ?_
    refine kx_Vi 13 (ci := 0) F (As := [vI a3]) (st := []) vd_X5_55 (e_X0_hasState G l M c1 a3 hI_M hk_c1 (by omega)) hk_c1 rfl rfl rfl ⟨by decide, by decide⟩ rfl rfl (Nat.le_of_ble_eq_true rfl) dX5_couldHave_10 rfl ?_
    intro r_7 N_8 q_9
    obtain ⟨rfl, q_9c⟩ := q_9
    have h_10 := Inv.g hI_M hk_c1 rfl 0 (a := 0) (b := 3) rfl rfl
    rcases q_9c with q_9c | q_9c | q_9c
    · refine kx_if_eq 16 F 25 dX5_couldHave_13 (by decide) rfl (by omega) (fun h_12 => (by exfalso; omega)) (fun h_12 => ?_)
      refine kx_aload_n 17 F 1 dX5_couldHave_16 rfl rfl rfl ?_
      refine kx_iload 19 F 4 dX5_couldHave_17 rfl rfl ?_
      refine kx_Vi 22 (ci := 0) F (As := [vI a4]) (st := []) vd_X5_55 (e_X0_hasState G l M c1 a4 hI_M hk_c1 (by omega)) hk_c1 rfl rfl rfl ⟨by decide, by decide⟩ rfl rfl (Nat.le_of_ble_eq_true rfl) dX5_couldHave_19 rfl ?_
      intro r_13 N_14 q_15
      obtain ⟨rfl, q_15c⟩ := q_15
      rcases q_15c with q_15c | q_15c | q_15c
      · refine kx_if_ne 25 F 27 dX5_couldHave_22 (by decide) rfl (by omega) (fun h_16 => ?_) (fun h_16 => (by exfalso; omega))
        refine kx_aload_n 28 F 0 dX5_couldHave_27 rfl rfl rfl ?_
        refine kx_iload_n 29 F 2 dX5_couldHave_28 rfl rfl rfl ?_
        refine kx_Vi 32 (ci := 0) F (As := [vI a2]) (st := []) vd_X5_58 (e_X5_sortOf G l M c0 a2 hI_M hk_c0 (by omega)) hk_c0 rfl rfl rfl ⟨by decide, by decide⟩ rfl rfl (Nat.le_of_ble_eq_true rfl) dX5_couldHave_29 rfl ?_
        intro r_17 N_18 q_19
        obtain ⟨rfl, q_19c⟩ := q_19
        have h_20 := Inv.g hI_M hk_c0 rfl 0 (a := 0) (b := 2) rfl rfl
        have h_22 := Inv.g hI_M hk_c0 rfl 1 (a := 0) (b := 4) rfl rfl
        rcases q_19c with q_19c | q_19c | q_19c | q_19c | q_19c
        · exfalso; omega
        · exfalso; omega
        · refine kx_istore 34 F 6 (lo' := [some (vR G c0), some (vR G c1), some (vI a2), some (vI a3), some (vI a4), some (vI a5), some (vI r_17)]) dX5_couldHave_32 (by decide) rfl rfl rfl ?_
          refine kx_iload 36 F 5 dX5_couldHave_34 rfl rfl ?_
          refine kx_iconst 37 F dX5_couldHave_36 rfl ?_
          refine kx_icmp_ne 40 F 51 dX5_couldHave_37 (by decide) rfl (by omega) (by decide) (fun h_25 => ?_) (fun h_25 => ?_)
          · refine kx_iload 53 F 6 dX5_couldHave_51 rfl rfl ?_
            refine kx_iconst 54 F dX5_couldHave_53 rfl ?_
            refine kx_icmp_eq 57 F 70 dX5_couldHave_54 (by decide) rfl (by omega) (by decide) (fun h_26 => (by exfalso; omega)) (fun h_26 => ?_)
            refine kx_aload_n 58 F 1 dX5_couldHave_57 rfl rfl rfl ?_
            refine kx_iload 60 F 5 dX5_couldHave_58 rfl rfl ?_
            refine kx_Vi 63 (ci := 0) F (As := [vI a5]) (st := []) vd_X5_62 (e_X0_hasSymbol G l M c1 a5 hI_M hk_c1 (by omega)) hk_c1 rfl rfl rfl ⟨by decide, by decide⟩ rfl rfl (Nat.le_of_ble_eq_true rfl) dX5_couldHave_60 rfl ?_
            intro r_27 N_28 q_29
            obtain ⟨rfl, q_29c⟩ := q_29
            have h_30 := Inv.g hI_M hk_c1 rfl 1 (a := 0) (b := 3) rfl rfl
            rcases q_29c with q_29c | q_29c | q_29c
            · refine kx_if_eq 66 F 70 dX5_couldHave_63 (by decide) rfl (by omega) (fun h_32 => (by exfalso; omega)) (fun h_32 => ?_)
              refine kx_iconst 67 F dX5_couldHave_66 rfl ?_
              refine kx_goto 71 F dX5_couldHave_67 (by decide) ?_
              exact kx_zret F hQ (by omega) ⟨rfl, (by omega), (Or.inl ⟨by omega, by unfold zCOk; omega⟩)⟩ dX5_couldHave_71
            · refine kx_if_eq 66 F 70 dX5_couldHave_63 (by decide) rfl (by omega) (fun h_33 => ?_) (fun h_33 => (by exfalso; omega))
              refine kx_iconst 71 F dX5_couldHave_70 rfl ?_
              exact kx_zret F hQ (by omega) ⟨rfl, (by omega), (Or.inr ⟨by omega, fun h => by unfold zCOk at h; omega⟩)⟩ dX5_couldHave_71
            · refine kx_if_eq 66 F 70 dX5_couldHave_63 (by decide) rfl (by omega) (fun h_34 => ?_) (fun h_34 => (by exfalso; omega))
              refine kx_iconst 71 F dX5_couldHave_70 rfl ?_
              exact kx_zret F hQ (by omega) ⟨rfl, (by omega), (Or.inr ⟨by omega, fun h => by unfold zCOk at h; omega⟩)⟩ dX5_couldHave_71
          · refine kx_iload 42 F 6 dX5_couldHave_40 rfl rfl ?_
            refine kx_if_eq 45 F 49 dX5_couldHave_42 (by decide) rfl (by omega) (fun h_35 => ?_) (fun h_35 => (by exfalso; omega))
            refine kx_iconst 50 F dX5_couldHave_49 rfl ?_
            exact kx_zret F hQ (by omega) ⟨rfl, (by omega), (Or.inr ⟨by omega, fun h => by unfold zCOk at h; omega⟩)⟩ dX5_couldHave_50
        · refine kx_istore 34 F 6 (lo' := [some (vR G c0), some (vR G c1), some (vI a2), some (vI a3), some (vI a4), some (vI a5), some (vI r_17)]) dX5_couldHave_32 (by decide) rfl rfl rfl ?_
          refine kx_iload 36 F 5 dX5_couldHave_34 rfl rfl ?_
          refine kx_iconst 37 F dX5_couldHave_36 rfl ?_
          refine kx_icmp_ne 40 F 51 dX5_couldHave_37 (by decide) rfl (by omega) (by decide) (fun h_36 => ?_) (fun h_36 => ?_)
          · refine kx_iload 53 F 6 dX5_couldHave_51 rfl rfl ?_
            refine kx_iconst 54 F dX5_couldHave_53 rfl ?_
            refine kx_icmp_eq 57 F 70 dX5_couldHave_54 (by decide) rfl (by omega) (by decide) (fun h_37 => (by exfalso; omega)) (fun h_37 => ?_)
            refine kx_aload_n 58 F 1 dX5_couldHave_57 rfl rfl rfl ?_
            refine kx_iload 60 F 5 dX5_couldHave_58 rfl rfl ?_
            refine kx_Vi 63 (ci := 0) F (As := [vI a5]) (st := []) vd_X5_62 (e_X0_hasSymbol G l M c1 a5 hI_M hk_c1 (by omega)) hk_c1 rfl rfl rfl ⟨by decide, by decide⟩ rfl rfl (Nat.le_of_ble_eq_true rfl) dX5_couldHave_60 rfl ?_
            intro r_38 N_39 q_40
            obtain ⟨rfl, q_40c⟩ := q_40
            have h_41 := Inv.g hI_M hk_c1 rfl 1 (a := 0) (b := 3) rfl rfl
            rcases q_40c with q_40c | q_40c | q_40c
            · refine kx_if_eq 66 F 70 dX5_couldHave_63 (by decide) rfl (by omega) (fun h_43 => (by exfalso; omega)) (fun h_43 => ?_)
              refine kx_iconst 67 F dX5_couldHave_66 rfl ?_
              refine kx_goto 71 F dX5_couldHave_67 (by decide) ?_
              exact kx_zret F hQ (by omega) ⟨rfl, (by omega), (Or.inl ⟨by omega, by unfold zCOk; omega⟩)⟩ dX5_couldHave_71
            · refine kx_if_eq 66 F 70 dX5_couldHave_63 (by decide) rfl (by omega) (fun h_44 => ?_) (fun h_44 => (by exfalso; omega))
              refine kx_iconst 71 F dX5_couldHave_70 rfl ?_
              exact kx_zret F hQ (by omega) ⟨rfl, (by omega), (Or.inr ⟨by omega, fun h => by unfold zCOk at h; omega⟩)⟩ dX5_couldHave_71
            · refine kx_if_eq 66 F 70 dX5_couldHave_63 (by decide) rfl (by omega) (fun h_45 => ?_) (fun h_45 => (by exfalso; omega))
              refine kx_iconst 71 F dX5_couldHave_70 rfl ?_
              exact kx_zret F hQ (by omega) ⟨rfl, (by omega), (Or.inr ⟨by omega, fun h => by unfold zCOk at h; omega⟩)⟩ dX5_couldHave_71
          · refine kx_iload 42 F 6 dX5_couldHave_40 rfl rfl ?_
            refine kx_if_eq 45 F 49 dX5_couldHave_42 (by decide) rfl (by omega) (fun h_46 => (by exfalso; omega)) (fun h_46 => ?_)
            refine kx_iconst 46 F dX5_couldHave_45 rfl ?_
            refine kx_goto 50 F dX5_couldHave_46 (by decide) ?_
            exact kx_zret F hQ (by omega) ⟨rfl, (by omega), (Or.inl ⟨by omega, by unfold zCOk; omega⟩)⟩ dX5_couldHave_50
        · refine kx_istore 34 F 6 (lo' := [some (vR G c0), some (vR G c1), some (vI a2), some (vI a3), some (vI a4), some (vI a5), some (vI r_17)]) dX5_couldHave_32 (by decide) rfl rfl rfl ?_
          refine kx_iload 36 F 5 dX5_couldHave_34 rfl rfl ?_
          refine kx_iconst 37 F dX5_couldHave_36 rfl ?_
          refine kx_icmp_ne 40 F 51 dX5_couldHave_37 (by decide) rfl (by omega) (by decide) (fun h_47 => ?_) (fun h_47 => ?_)
          · refine kx_iload 53 F 6 dX5_couldHave_51 rfl rfl ?_
            refine kx_iconst 54 F dX5_couldHave_53 rfl ?_
            refine kx_icmp_eq 57 F 70 dX5_couldHave_54 (by decide) rfl (by omega) (by decide) (fun h_48 => ?_) (fun h_48 => (by exfalso; omega))
            refine kx_iconst 71 F dX5_couldHave_70 rfl ?_
            exact kx_zret F hQ (by omega) ⟨rfl, (by omega), (Or.inr ⟨by omega, fun h => by unfold zCOk at h; omega⟩)⟩ dX5_couldHave_71
          · refine kx_iload 42 F 6 dX5_couldHave_40 rfl rfl ?_
            refine kx_if_eq 45 F 49 dX5_couldHave_42 (by decide) rfl (by omega) (fun h_49 => (by exfalso; omega)) (fun h_49 => ?_)
            refine kx_iconst 46 F dX5_couldHave_45 rfl ?_
            refine kx_goto 50 F dX5_couldHave_46 (by decide) ?_
            exact kx_zret F hQ (by omega) ⟨rfl, (by omega), (Or.inl ⟨by omega, by unfold zCOk; omega⟩)⟩ dX5_couldHave_50
      · refine kx_if_ne 25 F 27 dX5_couldHave_22 (by decide) rfl (by omega) (fun h_50 => (by exfalso; omega)) (fun h_50 => ?_)
        refine kx_iconst 26 F dX5_couldHave_25 rfl ?_
        exact kx_zret F hQ (by omega) ⟨rfl, (by omega), (Or.inr ⟨by omega, fun h => by unfold zCOk at h; omega⟩)⟩ dX5_couldHave_26
      · refine kx_if_ne 25 F 27 dX5_couldHave_22 (by decide) rfl (by omega) (fun h_51 => (by exfalso; omega)) (fun h_51 => ?_)
        refine kx_iconst 26 F dX5_couldHave_25 rfl ?_
        exact kx_zret F hQ (by omega) ⟨rfl, (by omega), (Or.inr ⟨by omega, fun h => by unfold zCOk at h; omega⟩)⟩ dX5_couldHave_26
    · refine kx_if_eq 16 F 25 dX5_couldHave_13 (by decide) rfl (by omega) (fun h_52 => ?_) (fun h_52 => (by exfalso; omega))
      refine kx_iconst 26 F dX5_couldHave_25 rfl ?_
      exact kx_zret F hQ (by omega) ⟨rfl, (by omega), (Or.inr ⟨by omega, fun h => by unfold zCOk at h; omega⟩)⟩ dX5_couldHave_26
    · refine kx_if_eq 16 F 25 dX5_couldHave_13 (by decide) rfl (by omega) (fun h_53 => ?_) (fun h_53 => (by exfalso; omega))
      refine kx_iconst 26 F dX5_couldHave_25 rfl ?_
      exact kx_zret F hQ (by omega) ⟨rfl, (by omega), (Or.inr ⟨by omega, fun h => by unfold zCOk at h; omega⟩)⟩ dX5_couldHave_26
  · refine kx_if_eq 8 F 25 dX5_couldHave_5 (by decide) rfl (by omega) (fun h_54 => ?_) (fun h_54 => (by exfalso; omega))
    refine kx_iconst 26 F dX5_couldHave_25 rfl ?_
    exact kx_zret F hQ (by omega) ⟨rfl, (by omega), (Or.inr ⟨by omega, fun h => by unfold zCOk at h; omega⟩)⟩ dX5_couldHave_26
  · refine kx_if_eq 8 F 25 dX5_couldHave_5 (by decide) rfl (by omega) (fun h_55 => ?_) (fun h_55 => (by exfalso; omega))
    refine kx_iconst 26 F dX5_couldHave_25 rfl ?_
    exact kx_zret F hQ (by omega) ⟨rfl, (by omega), (Or.inr ⟨by omega, fun h => by unfold zCOk at h; omega⟩)⟩ dX5_couldHave_26
abbrev f_e_X0_remove : List (Nat × Int) := [(1, 4), (2, -1), (3, -1), (4, -1), (5, -1), (6, -1), (7, -1)]
set_option maxHeartbeats 4000000 in
set_option maxRecDepth 100000 in
theorem e_X0_remove (G : KG) (l : Launch) (M : Mem) (c0 : Int) (a1 : Int) (hI_M : Inv false M) (hk_c0 : kd c0 = 1) (hpre : -2147483648 ≤ a1 ∧ a1 ≤ 2147483647 ∧ 0 ≤ a1 ∧ a1 < (M c0 4)) (q : Int → Int) (b : Int) (hA : AT M c0 q b) (hb : 0 < b) : KC false G l yX0_remove cX0_remove 3 none (3, 64) [vR G c0, vI a1] M (fun A => kQv false G A (fun (N : Mem) => Inv false N ∧ Fr f_e_X0_remove M N ∧ Cf (SA M c0) M N ∧ (AT N c0 (zdrop q b a1) b))) := by
  refine kx_met (lo := [some (vR G c0), some (vI a1), none]) (by decide) (Nat.le_of_ble_eq_true rfl) rfl ?_
  intro X F hQ
  have hF_M : Fr f_e_X0_remove M M := Fr.rf _ _
  have hE_M : Cf (SA M c0) M M := Cf.rf _ _
  have h_1 := Inv.g hI_M hk_c0 rfl 4 (a := 0) (b := 20) rfl rfl
  have hAn := hA.num
  have hk_2 : kd (M c0 6) = 2 := Inv.r hI_M hk_c0 rfl 6 rfl rfl
  have hk_3 : kd (M c0 7) = 3 := Inv.r hI_M hk_c0 rfl 7 rfl rfl
  have hk_4 : kd (M c0 8) = 4 := Inv.r hI_M hk_c0 rfl 8 rfl rfl
  have hk_5 : kd (M c0 9) = 5 := Inv.r hI_M hk_c0 rfl 9 rfl rfl
  have hk_6 : kd (M c0 10) = 6 := Inv.r hI_M hk_c0 rfl 10 rfl rfl
  have hk_7 : kd (M c0 11) = 7 := Inv.r hI_M hk_c0 rfl 11 rfl rfl
  refine kx_iload_n 1 F 1 dX0_remove_0 rfl rfl rfl ?_
  refine kx_istore_n 2 F 2 (lo' := [some (vR G c0), some (vI a1), some (vI a1)]) dX0_remove_1 rfl (by decide) rfl rfl rfl ?_
  have L_25 : ∀ (n_26 : Nat) (x2_23 : Int) (N_24 : Mem), Inv false N_24 → Fr f_e_X0_remove M N_24 → Cf (SA M c0) M N_24 → zSH N_24 M (M c0 6) a1 x2_23 → zSH N_24 M (M c0 7) a1 x2_23 → zSH N_24 M (M c0 8) a1 x2_23 → zSH N_24 M (M c0 9) a1 x2_23 → 0 ≤ x2_23 ∧ x2_23 ≤ 19 ∧ (N_24 c0 4) = (M c0 4) ∧ (N_24 c0 0) = (M c0 0) ∧ (N_24 c0 1) = (M c0 1) ∧ (N_24 c0 2) = (M c0 2) ∧ (N_24 c0 3) = (M c0 3) ∧ (N_24 c0 5) = (M c0 5) ∧ x2_23 ≥ a1 ∧ a1 ≤ x2_23 → (19 - (x2_23)).toNat = n_26 → KJ false G X N_24 2 [some (vR G c0), none, some (vI x2_23)] [] := by
    intro n_26
    refine Nat.strongRecOn n_26 ?_
    intro n_26 ih_27 x2_23 N_24 hI_N_24 hF_N_24 hE_N_24 hp_30 hp_31 hp_32 hp_33 h_28 hm_29
    refine kx_iload_n 3 F 2 dX0_remove_2 rfl rfl rfl ?_
    refine kx_iconst 4 F dX0_remove_3 rfl ?_
    refine kx_iadd 5 F (v := x2_23 + 1) dX0_remove_4 rfl rfl ?_
    refine kx_aload_n 6 F 0 dX0_remove_5 rfl rfl rfl ?_
    refine kx_geti 9 F fl_X0_46 hk_c0 rfl rfl (j := 4) rfl dX0_remove_6 (v := (N_24 c0 4)) rfl rfl ?_
    have h_34 := Inv.g hI_N_24 hk_c0 rfl 4 (a := 0) (b := 20) rfl rfl
    refine kx_icmp_ge 12 F 74 dX0_remove_9 (by decide) rfl (by omega) (by omega) (fun h_35 => ?_) (fun h_35 => ?_)
    · refine kx_aload_n 75 F 0 dX0_remove_74 rfl rfl rfl ?_
      refine kx_dup 76 F dX0_remove_75 rfl rfl ?_
      refine kx_geti 79 F fl_X0_46 hk_c0 rfl rfl (j := 4) rfl dX0_remove_76 (v := (N_24 c0 4)) rfl rfl ?_
      refine kx_iconst 80 F dX0_remove_79 rfl ?_
      refine kx_isub 81 F (v := (N_24 c0 4) - 1) dX0_remove_80 rfl rfl ?_
      refine kx_puti 84 F fw_X0_46 rfl hk_c0 rfl rfl (j := 4) rfl dX0_remove_81 rfl ?_
      intro N_36 hM_N_36
      have hI_N_36 : Inv false N_36 := Inv.u hI_N_24 hM_N_36 hk_c0 (a := 0) (b := 20) rfl rfl rfl (by omega)
      have hF_N_36 : Fr f_e_X0_remove M N_36 := Fr.u hF_N_24 hM_N_36 hk_c0 rfl
      have hE_N_36 : Cf (SA M c0) M N_36 := Cf.st hE_N_24 hM_N_36 (sa_0 M c0)
      refine kx_aload_n 85 F 0 dX0_remove_84 rfl rfl rfl ?_
      refine kx_Vv 88 (ci := 0) F (As := []) (st := []) vd_X0_49 (e_X0_renew G l N_36 c0 hI_N_36 hk_c0) hk_c0 rfl rfl rfl ⟨by decide, by decide⟩ rfl rfl (Nat.le_of_ble_eq_true rfl) dX0_remove_85 rfl ?_
      intro N_37 q_38
      obtain ⟨hI_N_37, hG_N_37, hC_N_37, hzw_N_37⟩ := q_38
      have hF_N_37 : Fr f_e_X0_remove M N_37 := Fr.c hF_N_36 hG_N_37 rfl
      have hE_N_37 : Cf (SA M c0) M N_37 := Cf.c hE_N_36 hC_N_37 (fun _ hx => SA.fr hx hk_c0 hF_N_36 rfl)
      have e_39 : (N_37 c0 0) = (M c0 0) := by rw [Fr.e hG_N_37 hk_c0 _ rfl, hM_N_36, mu_i (by omega), Fr.e hF_N_24 hk_c0 _ rfl]
      have h_40 := Inv.g hI_M hk_c0 rfl 0 (a := 0) (b := 3) rfl rfl
      have e_41 : (N_37 c0 1) = (M c0 1) := by rw [Fr.e hG_N_37 hk_c0 _ rfl, hM_N_36, mu_i (by omega), Fr.e hF_N_24 hk_c0 _ rfl]
      have h_42 := Inv.g hI_M hk_c0 rfl 1 (a := 0) (b := 3) rfl rfl
      have e_43 : (N_37 c0 2) = (M c0 2) := by rw [Fr.e hG_N_37 hk_c0 _ rfl, hM_N_36, mu_i (by omega), Fr.e hF_N_24 hk_c0 _ rfl]
      have h_44 := Inv.g hI_M hk_c0 rfl 2 (a := 0) (b := 7) rfl rfl
      have e_45 : (N_37 c0 3) = (M c0 3) := by rw [Fr.e hG_N_37 hk_c0 _ rfl, hM_N_36, mu_i (by omega), Fr.e hF_N_24 hk_c0 _ rfl]
      have h_46 := Inv.g hI_M hk_c0 rfl 3 (a := 0) (b := 7) rfl rfl
      have e_47 : (N_37 c0 4) = (N_24 c0 4) - 1 := by rw [Fr.e hG_N_37 hk_c0 _ rfl, hM_N_36, mu_s]
      have e_48 : (N_37 c0 5) = (M c0 5) := by rw [Fr.e hG_N_37 hk_c0 _ rfl, hM_N_36, mu_i (by omega), Fr.e hF_N_24 hk_c0 _ rfl]
      have h_49 := Inv.g hI_M hk_c0 rfl 5 (a := 0) (b := 2) rfl rfl
      exact kx_vret F hQ ⟨hI_N_37, hF_N_37, hE_N_37, (AT.drop hA hb (by omega) (by omega) (by omega) (by omega) (by omega) (by omega) (by omega) (by rw [Fr.e hG_N_37 hk_c0 _ rfl, hM_N_36, mu_i (by omega), Fr.e hF_N_24 hk_c0 _ rfl]) (by rw [Fr.e hG_N_37 hk_c0 _ rfl, hM_N_36, mu_i (by omega), Fr.e hF_N_24 hk_c0 _ rfl]) (by rw [Fr.e hG_N_37 hk_c0 _ rfl, hM_N_36, mu_i (by omega), Fr.e hF_N_24 hk_c0 _ rfl]) (by rw [Fr.e hG_N_37 hk_c0 _ rfl, hM_N_36, mu_i (by omega), Fr.e hF_N_24 hk_c0 _ rfl]) (hp_30.end (funext (fun j => by rw [Fr.e hG_N_37 hk_2 _ rfl, hM_N_36, mu_k hk_2 hk_c0 rfl])) (by omega)) (hp_31.end (funext (fun j => by rw [Fr.e hG_N_37 hk_3 _ rfl, hM_N_36, mu_k hk_3 hk_c0 rfl])) (by omega)) (hp_32.end (funext (fun j => by rw [Fr.e hG_N_37 hk_4 _ rfl, hM_N_36, mu_k hk_4 hk_c0 rfl])) (by omega)) (hp_33.end (funext (fun j => by rw [Fr.e hG_N_37 hk_5 _ rfl, hM_N_36, mu_k hk_5 hk_c0 rfl])) (by omega)) hzw_N_37)⟩ dX0_remove_88
    · refine kx_aload_n 13 F 0 dX0_remove_12 rfl rfl rfl ?_
      refine kx_getr 16 F fl_X0_9 hk_c0 rfl rfl (j := 6) rfl dX0_remove_13 (v := (M c0 6)) (by rw [Fr.e hF_N_24 hk_c0 _ rfl]) rfl ?_
      refine kx_iload_n 17 F 2 dX0_remove_16 rfl rfl rfl ?_
      refine kx_aload_n 18 F 0 dX0_remove_17 rfl rfl rfl ?_
      refine kx_getr 21 F fl_X0_9 hk_c0 rfl rfl (j := 6) rfl dX0_remove_18 (v := (M c0 6)) (by rw [Fr.e hF_N_24 hk_c0 _ rfl]) rfl ?_
      refine kx_iload_n 22 F 2 dX0_remove_21 rfl rfl rfl ?_
      refine kx_iconst 23 F dX0_remove_22 rfl ?_
      refine kx_iadd 24 F (v := x2_23 + 1) dX0_remove_23 rfl rfl ?_
      refine kx_iald 25 F hk_2 rfl rfl (by omega) (by decide) dX0_remove_24 (v := (N_24 (M c0 6) (x2_23 + 1))) rfl rfl ?_
      have h_50 := Inv.g hI_N_24 hk_2 rfl (x2_23 + 1) (a := 0) (b := 5) rfl rfl
      refine kx_iast 26 F hk_2 rfl rfl (by omega) (by decide) dX0_remove_25 rfl ?_
      intro N_51 hM_N_51
      have hI_N_51 : Inv false N_51 := Inv.u hI_N_24 hM_N_51 hk_2 (a := 0) (b := 5) rfl rfl rfl (by omega)
      have hF_N_51 : Fr f_e_X0_remove M N_51 := Fr.u hF_N_24 hM_N_51 hk_2 rfl
      have hE_N_51 : Cf (SA M c0) M N_51 := Cf.st hE_N_24 hM_N_51 (sa_6 M c0)
      refine kx_aload_n 27 F 0 dX0_remove_26 rfl rfl rfl ?_
      refine kx_getr 30 F fl_X0_15 hk_c0 rfl rfl (j := 7) rfl dX0_remove_27 (v := (M c0 7)) (by rw [hM_N_51, mu_k hk_c0 hk_2 rfl, Fr.e hF_N_24 hk_c0 _ rfl]) rfl ?_
      refine kx_iload_n 31 F 2 dX0_remove_30 rfl rfl rfl ?_
      refine kx_aload_n 32 F 0 dX0_remove_31 rfl rfl rfl ?_
      refine kx_getr 35 F fl_X0_15 hk_c0 rfl rfl (j := 7) rfl dX0_remove_32 (v := (M c0 7)) (by rw [hM_N_51, mu_k hk_c0 hk_2 rfl, Fr.e hF_N_24 hk_c0 _ rfl]) rfl ?_
      refine kx_iload_n 36 F 2 dX0_remove_35 rfl rfl rfl ?_
      refine kx_iconst 37 F dX0_remove_36 rfl ?_
      refine kx_iadd 38 F (v := x2_23 + 1) dX0_remove_37 rfl rfl ?_
      refine kx_iald 39 F hk_3 rfl rfl (by omega) (by decide) dX0_remove_38 (v := (N_24 (M c0 7) (x2_23 + 1))) (by rw [hM_N_51, mu_k hk_3 hk_2 rfl]) rfl ?_
      have h_52 := Inv.g hI_N_24 hk_3 rfl (x2_23 + 1) (a := 0) (b := 2) rfl rfl
      refine kx_iast 40 F hk_3 rfl rfl (by omega) (by decide) dX0_remove_39 rfl ?_
      intro N_53 hM_N_53
      have hI_N_53 : Inv false N_53 := Inv.u hI_N_51 hM_N_53 hk_3 (a := 0) (b := 2) rfl rfl rfl (by omega)
      have hF_N_53 : Fr f_e_X0_remove M N_53 := Fr.u hF_N_51 hM_N_53 hk_3 rfl
      have hE_N_53 : Cf (SA M c0) M N_53 := Cf.st hE_N_51 hM_N_53 (sa_7 M c0)
      refine kx_aload_n 41 F 0 dX0_remove_40 rfl rfl rfl ?_
      refine kx_getr 44 F fl_X0_18 hk_c0 rfl rfl (j := 8) rfl dX0_remove_41 (v := (M c0 8)) (by rw [hM_N_53, mu_k hk_c0 hk_3 rfl, hM_N_51, mu_k hk_c0 hk_2 rfl, Fr.e hF_N_24 hk_c0 _ rfl]) rfl ?_
      refine kx_iload_n 45 F 2 dX0_remove_44 rfl rfl rfl ?_
      refine kx_aload_n 46 F 0 dX0_remove_45 rfl rfl rfl ?_
      refine kx_getr 49 F fl_X0_18 hk_c0 rfl rfl (j := 8) rfl dX0_remove_46 (v := (M c0 8)) (by rw [hM_N_53, mu_k hk_c0 hk_3 rfl, hM_N_51, mu_k hk_c0 hk_2 rfl, Fr.e hF_N_24 hk_c0 _ rfl]) rfl ?_
      refine kx_iload_n 50 F 2 dX0_remove_49 rfl rfl rfl ?_
      refine kx_iconst 51 F dX0_remove_50 rfl ?_
      refine kx_iadd 52 F (v := x2_23 + 1) dX0_remove_51 rfl rfl ?_
      refine kx_iald 53 F hk_4 rfl rfl (by omega) (by decide) dX0_remove_52 (v := (N_24 (M c0 8) (x2_23 + 1))) (by rw [hM_N_53, mu_k hk_4 hk_3 rfl, hM_N_51, mu_k hk_4 hk_2 rfl]) rfl ?_
      have h_54 := Inv.g hI_N_24 hk_4 rfl (x2_23 + 1) (a := 0) (b := 2) rfl rfl
      refine kx_iast 54 F hk_4 rfl rfl (by omega) (by decide) dX0_remove_53 rfl ?_
      intro N_55 hM_N_55
      have hI_N_55 : Inv false N_55 := Inv.u hI_N_53 hM_N_55 hk_4 (a := 0) (b := 2) rfl rfl rfl (by omega)
      have hF_N_55 : Fr f_e_X0_remove M N_55 := Fr.u hF_N_53 hM_N_55 hk_4 rfl
      have hE_N_55 : Cf (SA M c0) M N_55 := Cf.st hE_N_53 hM_N_55 (sa_8 M c0)
      refine kx_aload_n 55 F 0 dX0_remove_54 rfl rfl rfl ?_
      refine kx_getr 58 F fl_X0_21 hk_c0 rfl rfl (j := 9) rfl dX0_remove_55 (v := (M c0 9)) (by rw [hM_N_55, mu_k hk_c0 hk_4 rfl, hM_N_53, mu_k hk_c0 hk_3 rfl, hM_N_51, mu_k hk_c0 hk_2 rfl, Fr.e hF_N_24 hk_c0 _ rfl]) rfl ?_
      refine kx_iload_n 59 F 2 dX0_remove_58 rfl rfl rfl ?_
      refine kx_aload_n 60 F 0 dX0_remove_59 rfl rfl rfl ?_
      refine kx_getr 63 F fl_X0_21 hk_c0 rfl rfl (j := 9) rfl dX0_remove_60 (v := (M c0 9)) (by rw [hM_N_55, mu_k hk_c0 hk_4 rfl, hM_N_53, mu_k hk_c0 hk_3 rfl, hM_N_51, mu_k hk_c0 hk_2 rfl, Fr.e hF_N_24 hk_c0 _ rfl]) rfl ?_
      refine kx_iload_n 64 F 2 dX0_remove_63 rfl rfl rfl ?_
      refine kx_iconst 65 F dX0_remove_64 rfl ?_
      refine kx_iadd 66 F (v := x2_23 + 1) dX0_remove_65 rfl rfl ?_
      refine kx_iald 67 F hk_5 rfl rfl (by omega) (by decide) dX0_remove_66 (v := (N_24 (M c0 9) (x2_23 + 1))) (by rw [hM_N_55, mu_k hk_5 hk_4 rfl, hM_N_53, mu_k hk_5 hk_3 rfl, hM_N_51, mu_k hk_5 hk_2 rfl]) rfl ?_
      have h_56 := Inv.g hI_N_24 hk_5 rfl (x2_23 + 1) (a := (-1)) (b := 2) rfl rfl
      refine kx_iast 68 F hk_5 rfl rfl (by omega) (by decide) dX0_remove_67 rfl ?_
      intro N_57 hM_N_57
      have hI_N_57 : Inv false N_57 := Inv.u hI_N_55 hM_N_57 hk_5 (a := (-1)) (b := 2) rfl rfl rfl (by omega)
      have hF_N_57 : Fr f_e_X0_remove M N_57 := Fr.u hF_N_55 hM_N_57 hk_5 rfl
      have hE_N_57 : Cf (SA M c0) M N_57 := Cf.st hE_N_55 hM_N_57 (sa_9 M c0)
      refine kx_iinc 71 F 2 (v := x2_23 + 1) (lo' := [some (vR G c0), none, some (vI (x2_23 + 1))]) dX0_remove_68 rfl (by omega) (by decide) rfl rfl rfl ?_
      refine kx_goto 2 F dX0_remove_71 (by decide) ?_
      have e_58 : (N_57 c0 4) = (N_24 c0 4) := by rw [hM_N_57, mu_k hk_c0 hk_5 rfl, hM_N_55, mu_k hk_c0 hk_4 rfl, hM_N_53, mu_k hk_c0 hk_3 rfl, hM_N_51, mu_k hk_c0 hk_2 rfl]
      have e_59 : (N_57 c0 0) = (M c0 0) := by rw [hM_N_57, mu_k hk_c0 hk_5 rfl, hM_N_55, mu_k hk_c0 hk_4 rfl, hM_N_53, mu_k hk_c0 hk_3 rfl, hM_N_51, mu_k hk_c0 hk_2 rfl, Fr.e hF_N_24 hk_c0 _ rfl]
      have h_60 := Inv.g hI_M hk_c0 rfl 0 (a := 0) (b := 3) rfl rfl
      have e_61 : (N_57 c0 1) = (M c0 1) := by rw [hM_N_57, mu_k hk_c0 hk_5 rfl, hM_N_55, mu_k hk_c0 hk_4 rfl, hM_N_53, mu_k hk_c0 hk_3 rfl, hM_N_51, mu_k hk_c0 hk_2 rfl, Fr.e hF_N_24 hk_c0 _ rfl]
      have h_62 := Inv.g hI_M hk_c0 rfl 1 (a := 0) (b := 3) rfl rfl
      have e_63 : (N_57 c0 2) = (M c0 2) := by rw [hM_N_57, mu_k hk_c0 hk_5 rfl, hM_N_55, mu_k hk_c0 hk_4 rfl, hM_N_53, mu_k hk_c0 hk_3 rfl, hM_N_51, mu_k hk_c0 hk_2 rfl, Fr.e hF_N_24 hk_c0 _ rfl]
      have h_64 := Inv.g hI_M hk_c0 rfl 2 (a := 0) (b := 7) rfl rfl
      have e_65 : (N_57 c0 3) = (M c0 3) := by rw [hM_N_57, mu_k hk_c0 hk_5 rfl, hM_N_55, mu_k hk_c0 hk_4 rfl, hM_N_53, mu_k hk_c0 hk_3 rfl, hM_N_51, mu_k hk_c0 hk_2 rfl, Fr.e hF_N_24 hk_c0 _ rfl]
      have h_66 := Inv.g hI_M hk_c0 rfl 3 (a := 0) (b := 7) rfl rfl
      have e_67 : (N_57 c0 5) = (M c0 5) := by rw [hM_N_57, mu_k hk_c0 hk_5 rfl, hM_N_55, mu_k hk_c0 hk_4 rfl, hM_N_53, mu_k hk_c0 hk_3 rfl, hM_N_51, mu_k hk_c0 hk_2 rfl, Fr.e hF_N_24 hk_c0 _ rfl]
      have h_68 := Inv.g hI_M hk_c0 rfl 5 (a := 0) (b := 2) rfl rfl
      exact ih_27 _ (by omega) (x2_23 + 1) N_57 hI_N_57 hF_N_57 hE_N_57 (zSH.step (v := N_24 (M c0 6) (x2_23 + 1)) hp_30 (UP.ot (UP.ot (UP.ot (UP.st hM_N_51) hM_N_53 hk_2 hk_3 rfl) hM_N_55 hk_2 hk_4 rfl) hM_N_57 hk_2 hk_5 rfl) rfl (by omega) (by omega)) (zSH.step (v := N_24 (M c0 7) (x2_23 + 1)) hp_31 (UP.ot (UP.ot (UP.of (fun j => by rw [hM_N_51, mu_k hk_3 hk_2 rfl]) hM_N_53) hM_N_55 hk_3 hk_4 rfl) hM_N_57 hk_3 hk_5 rfl) rfl (by omega) (by omega)) (zSH.step (v := N_24 (M c0 8) (x2_23 + 1)) hp_32 (UP.ot (UP.of (fun j => by rw [hM_N_53, mu_k hk_4 hk_3 rfl, hM_N_51, mu_k hk_4 hk_2 rfl]) hM_N_55) hM_N_57 hk_4 hk_5 rfl) rfl (by omega) (by omega)) (zSH.step (v := N_24 (M c0 9) (x2_23 + 1)) hp_33 (UP.of (fun j => by rw [hM_N_55, mu_k hk_5 hk_4 rfl, hM_N_53, mu_k hk_5 hk_3 rfl, hM_N_51, mu_k hk_5 hk_2 rfl]) hM_N_57) rfl (by omega) (by omega)) (by omega) rfl
  refine kx_drop 1 (lo' := [some (vR G c0), none, some (vI a1)]) rfl ?_
  have h_69 := Inv.g hI_M hk_c0 rfl 0 (a := 0) (b := 3) rfl rfl
  have h_70 := Inv.g hI_M hk_c0 rfl 1 (a := 0) (b := 3) rfl rfl
  have h_71 := Inv.g hI_M hk_c0 rfl 2 (a := 0) (b := 7) rfl rfl
  have h_72 := Inv.g hI_M hk_c0 rfl 3 (a := 0) (b := 7) rfl rfl
  have h_73 := Inv.g hI_M hk_c0 rfl 5 (a := 0) (b := 2) rfl rfl
  exact L_25 _ a1 M hI_M hF_M hE_M zSH.nil zSH.nil zSH.nil zSH.nil (by omega) rfl
set_option maxHeartbeats 4000000 in
set_option maxRecDepth 100000 in
theorem e_X11_hasState (G : KG) (l : Launch) (M : Mem) (c0 : Int) (a1 : Int) (a2 : Int) (hI_M : Inv false M) (hk_c0 : kd c0 = 62) (hpre : -2147483648 ≤ a1 ∧ a1 ≤ 2147483647 ∧ -2147483648 ≤ a2 ∧ a2 ≤ 2147483647 ∧ (M (M c0 5) 3) ≤ 2) : KC false G l yX11_hasState cX11_hasState 3 (some .boolean) (1, 21) [vR G c0, vI a1, vI a2] M (fun A => kQi false G A (fun (r : Int) (N : Mem) => M = N ∧ ((r = 1 ∧ 0 ≤ a1 ∧ a1 < (M (M c0 5) 3) ∧ a1 = 0 ∧ 0 ≤ a2 ∧ a2 < (M (M (M c0 5) 4) 0)) ∨ (r = 1 ∧ 0 ≤ a1 ∧ a1 < (M (M c0 5) 3) ∧ a1 = 1 ∧ 0 ≤ a2 ∧ a2 < (M (M (M c0 5) 5) 0)) ∨ (r = 0 ∧ a1 < 0) ∨ (r = 0 ∧ a1 ≥ (M (M c0 5) 3)) ∨ (r = 0 ∧ a1 = 0 ∧ a2 < 0) ∨ (r = 0 ∧ a1 = 0 ∧ a2 ≥ (M (M (M c0 5) 4) 0)) ∨ (r = 0 ∧ a1 = 1 ∧ a2 < 0) ∨ (r = 0 ∧ a1 = 1 ∧ a2 ≥ (M (M (M c0 5) 5) 0)) ∨ (r = 0 ∧ a1 ≥ 2)))) := by
  refine kx_met (lo := [some (vR G c0), some (vI a1), some (vI a2)]) (by decide) (Nat.le_of_ble_eq_true rfl) rfl ?_
  intro X F hQ
  have hk_1 : kd (M c0 5) = 12 := Inv.r hI_M hk_c0 rfl 5 rfl rfl
  have h_2 := Inv.g hI_M hk_1 rfl 3 (a := 0) (b := 2) rfl rfl
  refine kx_aload_n 1 F 0 dX11_hasState_0 rfl rfl rfl ?_
  refine kx_getr 4 F fl_X11_26 hk_c0 rfl rfl (j := 5) rfl dX11_hasState_1 (v := (M c0 5)) rfl rfl ?_
  refine kx_iload_n 5 F 1 dX11_hasState_4 rfl rfl rfl ?_
  refine kx_Vi 8 (ci := 0) F (As := [vI a1]) (st := []) vd_X11_163 (e_X5_has G l M (M c0 5) a1 hI_M hk_1 (by omega)) hk_1 rfl rfl rfl ⟨by decide, by decide⟩ rfl rfl (Nat.le_of_ble_eq_true rfl) dX11_hasState_5 rfl ?_
  intro r_3 N_4 q_5
  obtain ⟨rfl, q_5c⟩ := q_5
  rcases q_5c with q_5c | q_5c | q_5c
  · refine kx_if_eq 11 F 30 dX11_hasState_8 (by decide) rfl (by omega) (fun h_6 => (by exfalso; omega)) (fun h_6 => ?_)
    refine kx_aload_n 12 F 0 dX11_hasState_11 rfl rfl rfl ?_
    refine kx_getr 15 F fl_X11_26 hk_c0 rfl rfl (j := 5) rfl dX11_hasState_12 (v := (M c0 5)) rfl rfl ?_
    refine kx_iload_n 16 F 1 dX11_hasState_15 rfl rfl rfl ?_
    refine kx_Vr 19 (ci := 0) F (As := [vI a1]) (st := []) vd_X11_164 (c_X5_pickE G l M (M c0 5) a1 hI_M hk_1 (by omega)) hk_1 rfl rfl rfl ⟨by decide, by decide⟩ rfl rfl (Nat.le_of_ble_eq_true rfl) dX11_hasState_16 rfl ?_
    intro r_7 N_8 q_9
    obtain ⟨rfl, hk_10, q_9d⟩ := q_9
    rcases q_9d with ⟨q_9c, rfl⟩ | ⟨q_9c, rfl⟩
    · refine kx_iload_n 20 F 2 dX11_hasState_19 rfl rfl rfl ?_
      refine kx_Vi 23 (ci := 0) F (As := [vI a2]) (st := []) vd_X11_391 (e_X0_hasState G l M (M (M c0 5) 4) a2 hI_M hk_10 (by omega)) hk_10 rfl rfl rfl ⟨by decide, by decide⟩ rfl rfl (Nat.le_of_ble_eq_true rfl) dX11_hasState_20 rfl ?_
      intro r_11 N_12 q_13
      obtain ⟨rfl, q_13c⟩ := q_13
      have h_14 := Inv.g hI_M hk_10 rfl 0 (a := 0) (b := 3) rfl rfl
      rcases q_13c with q_13c | q_13c | q_13c
      · refine kx_if_eq 26 F 30 dX11_hasState_23 (by decide) rfl (by omega) (fun h_16 => (by exfalso; omega)) (fun h_16 => ?_)
        refine kx_iconst 27 F dX11_hasState_26 rfl ?_
        refine kx_goto 31 F dX11_hasState_27 (by decide) ?_
        have hk_17 : kd (M (M c0 5) 5) = 1 := Inv.r hI_M hk_1 rfl 5 rfl rfl
        have h_18 := Inv.g hI_M hk_17 rfl 0 (a := 0) (b := 3) rfl rfl
        exact kx_zret F hQ (by omega) ⟨rfl, (Or.inl (by omega))⟩ dX11_hasState_31
      · refine kx_if_eq 26 F 30 dX11_hasState_23 (by decide) rfl (by omega) (fun h_19 => ?_) (fun h_19 => (by exfalso; omega))
        refine kx_iconst 31 F dX11_hasState_30 rfl ?_
        have hk_21 : kd (M (M c0 5) 5) = 1 := Inv.r hI_M hk_1 rfl 5 rfl rfl
        have h_22 := Inv.g hI_M hk_21 rfl 0 (a := 0) (b := 3) rfl rfl
        exact kx_zret F hQ (by omega) ⟨rfl, (Or.inr (Or.inr (Or.inr (Or.inr (Or.inl (by omega))))))⟩ dX11_hasState_31
      · refine kx_if_eq 26 F 30 dX11_hasState_23 (by decide) rfl (by omega) (fun h_23 => ?_) (fun h_23 => (by exfalso; omega))
        refine kx_iconst 31 F dX11_hasState_30 rfl ?_
        have hk_24 : kd (M (M c0 5) 5) = 1 := Inv.r hI_M hk_1 rfl 5 rfl rfl
        have h_25 := Inv.g hI_M hk_24 rfl 0 (a := 0) (b := 3) rfl rfl
        exact kx_zret F hQ (by omega) ⟨rfl, (Or.inr (Or.inr (Or.inr (Or.inr (Or.inr (Or.inl (by omega)))))))⟩ dX11_hasState_31
    · refine kx_iload_n 20 F 2 dX11_hasState_19 rfl rfl rfl ?_
      refine kx_Vi 23 (ci := 0) F (As := [vI a2]) (st := []) vd_X11_391 (e_X0_hasState G l M (M (M c0 5) 5) a2 hI_M hk_10 (by omega)) hk_10 rfl rfl rfl ⟨by decide, by decide⟩ rfl rfl (Nat.le_of_ble_eq_true rfl) dX11_hasState_20 rfl ?_
      intro r_26 N_27 q_28
      obtain ⟨rfl, q_28c⟩ := q_28
      have h_29 := Inv.g hI_M hk_10 rfl 0 (a := 0) (b := 3) rfl rfl
      rcases q_28c with q_28c | q_28c | q_28c
      · refine kx_if_eq 26 F 30 dX11_hasState_23 (by decide) rfl (by omega) (fun h_31 => (by exfalso; omega)) (fun h_31 => ?_)
        refine kx_iconst 27 F dX11_hasState_26 rfl ?_
        refine kx_goto 31 F dX11_hasState_27 (by decide) ?_
        have hk_32 : kd (M (M c0 5) 4) = 1 := Inv.r hI_M hk_1 rfl 4 rfl rfl
        have h_33 := Inv.g hI_M hk_32 rfl 0 (a := 0) (b := 3) rfl rfl
        exact kx_zret F hQ (by omega) ⟨rfl, (Or.inr (Or.inl (by omega)))⟩ dX11_hasState_31
      · refine kx_if_eq 26 F 30 dX11_hasState_23 (by decide) rfl (by omega) (fun h_34 => ?_) (fun h_34 => (by exfalso; omega))
        refine kx_iconst 31 F dX11_hasState_30 rfl ?_
        have hk_35 : kd (M (M c0 5) 4) = 1 := Inv.r hI_M hk_1 rfl 4 rfl rfl
        have h_36 := Inv.g hI_M hk_35 rfl 0 (a := 0) (b := 3) rfl rfl
        exact kx_zret F hQ (by omega) ⟨rfl, (Or.inr (Or.inr (Or.inr (Or.inr (Or.inr (Or.inr (Or.inl (by omega))))))))⟩ dX11_hasState_31
      · refine kx_if_eq 26 F 30 dX11_hasState_23 (by decide) rfl (by omega) (fun h_38 => ?_) (fun h_38 => (by exfalso; omega))
        refine kx_iconst 31 F dX11_hasState_30 rfl ?_
        have hk_39 : kd (M (M c0 5) 4) = 1 := Inv.r hI_M hk_1 rfl 4 rfl rfl
        have h_40 := Inv.g hI_M hk_39 rfl 0 (a := 0) (b := 3) rfl rfl
        exact kx_zret F hQ (by omega) ⟨rfl, (Or.inr (Or.inr (Or.inr (Or.inr (Or.inr (Or.inr (Or.inr (Or.inl (by omega)))))))))⟩ dX11_hasState_31
  · refine kx_if_eq 11 F 30 dX11_hasState_8 (by decide) rfl (by omega) (fun h_41 => ?_) (fun h_41 => (by exfalso; omega))
    refine kx_iconst 31 F dX11_hasState_30 rfl ?_
    have hk_42 : kd (M (M c0 5) 4) = 1 := Inv.r hI_M hk_1 rfl 4 rfl rfl
    have h_43 := Inv.g hI_M hk_42 rfl 0 (a := 0) (b := 3) rfl rfl
    have hk_44 : kd (M (M c0 5) 5) = 1 := Inv.r hI_M hk_1 rfl 5 rfl rfl
    have h_45 := Inv.g hI_M hk_44 rfl 0 (a := 0) (b := 3) rfl rfl
    exact kx_zret F hQ (by omega) ⟨rfl, (Or.inr (Or.inr (Or.inl (by omega))))⟩ dX11_hasState_31
  · refine kx_if_eq 11 F 30 dX11_hasState_8 (by decide) rfl (by omega) (fun h_46 => ?_) (fun h_46 => (by exfalso; omega))
    refine kx_iconst 31 F dX11_hasState_30 rfl ?_
    have hk_47 : kd (M (M c0 5) 4) = 1 := Inv.r hI_M hk_1 rfl 4 rfl rfl
    have h_48 := Inv.g hI_M hk_47 rfl 0 (a := 0) (b := 3) rfl rfl
    have hk_49 : kd (M (M c0 5) 5) = 1 := Inv.r hI_M hk_1 rfl 5 rfl rfl
    have h_50 := Inv.g hI_M hk_49 rfl 0 (a := 0) (b := 3) rfl rfl
    exact kx_zret F hQ (by omega) ⟨rfl, (Or.inr (Or.inr (Or.inr (Or.inl (by omega)))))⟩ dX11_hasState_31
