set_option maxHeartbeats 4000000 in
set_option maxRecDepth 100000 in
theorem e_partnerPlace3 (G : KG) (l : Launch) (M : Mem) (c0 : Int) (a1 : Int) (a2 : Int) (a3 : Int) (hI_M : Inv false M) (hk_c0 : kd c0 = 62) (hpre : -2147483648 ≤ a1 ∧ a1 ≤ 2147483647 ∧ -2147483648 ≤ a2 ∧ a2 ≤ 2147483647 ∧ -2147483648 ≤ a3 ∧ a3 ≤ 2147483647 ∧ 0 ≤ a1 ∧ a1 ≤ 3 ∧ 0 ≤ a2 ∧ a2 ≤ 20 ∧ 0 ≤ a3 ∧ a3 < a2) (hW : zWL (M (M (M c0 3) 0)) a1 a2 (M (M c0 5) 2)) : KC false G l yX11_partnerPlace cX11_partnerPlace 9 (some .int) (3, 64) [vR G c0, vI a1, vI a2, vI a3] M (fun A => kQi false G A (fun (r : Int) (N : Mem) => M = N ∧ (r ≥ -1 ∧ r ≤ 19) ∧ (zPT (fun j => M (M (M c0 3) 0) (60 * a1 + j)) (M (M c0 5) 0) (M (M c0 5) 1) a2 a3 r))) := by
  refine kx_met (lo := [some (vR G c0), some (vI a1), some (vI a2), some (vI a3), none, none, none, none, none]) (by decide) (Nat.le_of_ble_eq_true rfl) rfl ?_
  intro X F hQ
  have hk_1 : kd (M c0 3) = 13 := Inv.r hI_M hk_c0 rfl 3 rfl rfl
  have hk_2 : kd (M (M c0 3) 0) = 14 := Inv.r hI_M hk_1 rfl 0 rfl rfl
  have hk_3 : kd (M (M c0 3) 1) = 15 := Inv.r hI_M hk_1 rfl 1 rfl rfl
  have hk_4 : kd (M (M c0 3) 2) = 16 := Inv.r hI_M hk_1 rfl 2 rfl rfl
  have hk_5 : kd (M c0 5) = 12 := Inv.r hI_M hk_c0 rfl 5 rfl rfl
  have hlr := Inv.g hI_M hk_5 rfl 2 (a := 0) (b := 6) rfl rfl
  have hl_6 := hW a3 (by omega) (by omega)
  refine kx_aload_n 1 F 0 dX11_partnerPlace_0 rfl rfl rfl ?_
  refine kx_iload_n 2 F 1 dX11_partnerPlace_1 rfl rfl rfl ?_
  refine kx_iload_n 3 F 3 dX11_partnerPlace_2 rfl rfl rfl ?_
  refine kx_Vi 6 (ci := 0) F (As := [vI a1, vI a3]) (st := []) vd_X11_256 (e_sortAt3 G l M c0 a1 a3 hI_M hk_c0 (by omega)) hk_c0 rfl rfl rfl ⟨by decide, by decide⟩ rfl rfl (Nat.le_of_ble_eq_true rfl) dX11_partnerPlace_3 rfl ?_
  intro r_8 N_9 q_10
  obtain ⟨rfl, q_10c⟩ := q_10
  have h_11 := Inv.g hI_M hk_5 rfl 0 (a := 0) (b := 2) rfl rfl
  have h_13 := Inv.g hI_M hk_5 rfl 1 (a := 0) (b := 4) rfl rfl
  rcases q_10c with q_10c | q_10c | q_10c
  · refine kx_istore 8 F 4 (lo' := [some (vR G c0), some (vI a1), some (vI a2), some (vI a3), some (vI r_8), none, none, none, none]) dX11_partnerPlace_6 (by decide) rfl rfl rfl ?_
    refine kx_iload 10 F 4 dX11_partnerPlace_8 rfl rfl ?_
    refine kx_iconst 11 F dX11_partnerPlace_10 rfl ?_
    refine kx_icmp_ne 14 F 16 dX11_partnerPlace_11 (by decide) rfl (by omega) (by decide) (fun h_16 => ?_) (fun h_16 => (by exfalso; omega))
    refine kx_iload 18 F 4 dX11_partnerPlace_16 rfl rfl ?_
    refine kx_if_ne 21 F 25 dX11_partnerPlace_18 (by decide) rfl (by omega) (fun h_17 => (by exfalso; omega)) (fun h_17 => ?_)
    refine kx_iconst 22 F dX11_partnerPlace_21 rfl ?_
    refine kx_goto 26 F dX11_partnerPlace_22 (by decide) ?_
    refine kx_istore 28 F 5 (lo' := [some (vR G c0), some (vI a1), some (vI a2), some (vI a3), some (vI r_8), some (vI 1), none, none, none]) dX11_partnerPlace_26 (by decide) rfl rfl rfl ?_
    refine kx_iconst 29 F dX11_partnerPlace_28 rfl ?_
    refine kx_istore 31 F 6 (lo' := [some (vR G c0), some (vI a1), some (vI a2), some (vI a3), some (vI r_8), some (vI 1), some (vI 0), none, none]) dX11_partnerPlace_29 (by decide) rfl rfl rfl ?_
    refine kx_iload_n 32 F 3 dX11_partnerPlace_31 rfl rfl rfl ?_
    refine kx_iload 34 F 5 dX11_partnerPlace_32 rfl rfl ?_
    refine kx_iadd 35 F (v := a3 + 1) dX11_partnerPlace_34 rfl rfl ?_
    refine kx_istore 37 F 7 (lo' := [some (vR G c0), some (vI a1), some (vI a2), some (vI a3), some (vI r_8), some (vI 1), some (vI 0), some (vI (a3 + 1)), none]) dX11_partnerPlace_35 (by decide) rfl rfl rfl ?_
    have L_38 : ∀ (n_39 : Nat) (x6_36 : Int) (x7_37 : Int), zSF (fun j => M (M (M c0 3) 0) (60 * a1 + j)) (M (M c0 5) 0) (M (M c0 5) 1) a3 a2 x7_37 x6_36 → 0 ≤ x6_36 ∧ x6_36 ≤ 20 ∧ 1 ≤ x7_37 ∧ x7_37 ≤ 20 ∧ x6_36 ≤ x7_37 ∧ a3 + 1 ≤ x7_37 → (20 - (x7_37)).toNat = n_39 → KJ false G X M 37 [some (vR G c0), some (vI a1), some (vI a2), none, some (vI r_8), some (vI 1), some (vI x6_36), some (vI x7_37), none] [] := by
      intro n_39
      refine Nat.strongRecOn n_39 ?_
      intro n_39 ih_40 x6_36 x7_37 hp_43 h_41 hm_42
      refine kx_iload 39 F 7 dX11_partnerPlace_37 rfl rfl ?_
      refine kx_if_lt 42 F 106 dX11_partnerPlace_39 (by decide) rfl (by omega) (fun h_44 => (by exfalso; omega)) (fun h_44 => ?_)
      refine kx_iload 44 F 7 dX11_partnerPlace_42 rfl rfl ?_
      refine kx_iload_n 45 F 2 dX11_partnerPlace_44 rfl rfl rfl ?_
      refine kx_icmp_ge 48 F 106 dX11_partnerPlace_45 (by decide) rfl (by omega) (by omega) (fun h_45 => ?_) (fun h_45 => ?_)
      · refine kx_iconst 107 F dX11_partnerPlace_106 rfl ?_
        exact kx_iret F hQ ⟨rfl, (by omega), (zSF.end hp_43 (by omega))⟩ dX11_partnerPlace_107
      · have hl_46 := hW x7_37 (by omega) (by omega)
        refine kx_aload_n 49 F 0 dX11_partnerPlace_48 rfl rfl rfl ?_
        refine kx_iload_n 50 F 1 dX11_partnerPlace_49 rfl rfl rfl ?_
        refine kx_iload 52 F 7 dX11_partnerPlace_50 rfl rfl ?_
        refine kx_Vi 55 (ci := 0) F (As := [vI a1, vI x7_37]) (st := []) vd_X11_256 (e_sortAt3 G l M c0 a1 x7_37 hI_M hk_c0 (by omega)) hk_c0 rfl rfl rfl ⟨by decide, by decide⟩ rfl rfl (Nat.le_of_ble_eq_true rfl) dX11_partnerPlace_52 rfl ?_
        intro r_47 N_48 q_49
        obtain ⟨rfl, q_49c⟩ := q_49
        rcases q_49c with q_49c | q_49c | q_49c
        · refine kx_istore 57 F 8 (lo' := [some (vR G c0), some (vI a1), some (vI a2), none, some (vI r_8), some (vI 1), some (vI x6_36), some (vI x7_37), some (vI r_47)]) dX11_partnerPlace_55 (by decide) rfl rfl rfl ?_
          refine kx_iload 59 F 8 dX11_partnerPlace_57 rfl rfl ?_
          refine kx_iload 61 F 4 dX11_partnerPlace_59 rfl rfl ?_
          refine kx_icmp_ne 64 F 70 dX11_partnerPlace_61 (by decide) rfl (by omega) (by omega) (fun h_52 => (by exfalso; omega)) (fun h_52 => ?_)
          refine kx_iinc 67 F 6 (v := x6_36 + 1) (lo' := [some (vR G c0), some (vI a1), some (vI a2), none, some (vI r_8), some (vI 1), some (vI (x6_36 + 1)), some (vI x7_37), some (vI r_47)]) dX11_partnerPlace_64 rfl (by omega) (by decide) rfl rfl rfl ?_
          refine kx_goto 96 F dX11_partnerPlace_67 (by decide) ?_
          refine kx_iload 98 F 7 dX11_partnerPlace_96 rfl rfl ?_
          refine kx_iload 100 F 5 dX11_partnerPlace_98 rfl rfl ?_
          refine kx_iadd 101 F (v := x7_37 + 1) dX11_partnerPlace_100 rfl rfl ?_
          refine kx_istore 103 F 7 (lo' := [some (vR G c0), some (vI a1), some (vI a2), none, some (vI r_8), some (vI 1), some (vI (x6_36 + 1)), some (vI (x7_37 + 1)), some (vI r_47)]) dX11_partnerPlace_101 (by decide) rfl rfl rfl ?_
          refine kx_goto 37 F dX11_partnerPlace_103 (by decide) ?_
          refine kx_drop 8 (lo' := [some (vR G c0), some (vI a1), some (vI a2), none, some (vI r_8), some (vI 1), some (vI (x6_36 + 1)), some (vI (x7_37 + 1)), none]) rfl ?_
          exact ih_40 _ (by omega) (x6_36 + 1) (x7_37 + 1) (zSF.s hp_43 (by omega) (by omega) (by have h := (zh_c (w := (fun j => M (M (M c0 3) 0) (60 * a1 + j))) (c := (M (M c0 5) 0)) (p := (M (M c0 5) 1)) (i := x7_37) (by omega) (by have h : M (M (M c0 3) 0) (60 * a1 + x7_37) < (M (M c0 5) 0) := (by omega); exact h)); exact h.trans (by omega)) (by omega)) (by omega) rfl
        · refine kx_istore 57 F 8 (lo' := [some (vR G c0), some (vI a1), some (vI a2), none, some (vI r_8), some (vI 1), some (vI x6_36), some (vI x7_37), some (vI r_47)]) dX11_partnerPlace_55 (by decide) rfl rfl rfl ?_
          refine kx_iload 59 F 8 dX11_partnerPlace_57 rfl rfl ?_
          refine kx_iload 61 F 4 dX11_partnerPlace_59 rfl rfl ?_
          refine kx_icmp_ne 64 F 70 dX11_partnerPlace_61 (by decide) rfl (by omega) (by omega) (fun h_53 => ?_) (fun h_53 => (by exfalso; omega))
          refine kx_iload 72 F 8 dX11_partnerPlace_70 rfl rfl ?_
          refine kx_iconst 73 F dX11_partnerPlace_72 rfl ?_
          refine kx_icmp_eq 76 F 87 dX11_partnerPlace_73 (by decide) rfl (by omega) (by decide) (fun h_54 => (by exfalso; omega)) (fun h_54 => ?_)
          refine kx_iload 78 F 6 dX11_partnerPlace_76 rfl rfl ?_
          refine kx_if_le 81 F 87 dX11_partnerPlace_78 (by decide) rfl (by omega) (fun h_55 => ?_) (fun h_55 => ?_)
          · refine kx_iload 89 F 8 dX11_partnerPlace_87 rfl rfl ?_
            refine kx_iconst 90 F dX11_partnerPlace_89 rfl ?_
            refine kx_icmp_eq 93 F 96 dX11_partnerPlace_90 (by decide) rfl (by omega) (by decide) (fun h_56 => (by exfalso; omega)) (fun h_56 => ?_)
            refine kx_iload 95 F 7 dX11_partnerPlace_93 rfl rfl ?_
            exact kx_iret F hQ ⟨rfl, (by omega), (zSF.hit hp_43 (by omega) (by omega) (by have h : ¬ M (M (M c0 3) 0) (60 * a1 + x7_37) < (M (M c0 5) 0) := (by omega); exact h) (by have h : M (M (M c0 3) 0) (60 * a1 + x7_37) < (M (M c0 5) 1) := (by omega); exact h))⟩ dX11_partnerPlace_95
          · refine kx_iinc 84 F 6 (v := x6_36 - 1) (lo' := [some (vR G c0), some (vI a1), some (vI a2), none, some (vI r_8), some (vI 1), some (vI (x6_36 - 1)), some (vI x7_37), some (vI r_47)]) dX11_partnerPlace_81 rfl (by omega) (by decide) rfl rfl rfl ?_
            refine kx_goto 96 F dX11_partnerPlace_84 (by decide) ?_
            refine kx_iload 98 F 7 dX11_partnerPlace_96 rfl rfl ?_
            refine kx_iload 100 F 5 dX11_partnerPlace_98 rfl rfl ?_
            refine kx_iadd 101 F (v := x7_37 + 1) dX11_partnerPlace_100 rfl rfl ?_
            refine kx_istore 103 F 7 (lo' := [some (vR G c0), some (vI a1), some (vI a2), none, some (vI r_8), some (vI 1), some (vI (x6_36 - 1)), some (vI (x7_37 + 1)), some (vI r_47)]) dX11_partnerPlace_101 (by decide) rfl rfl rfl ?_
            refine kx_goto 37 F dX11_partnerPlace_103 (by decide) ?_
            refine kx_drop 8 (lo' := [some (vR G c0), some (vI a1), some (vI a2), none, some (vI r_8), some (vI 1), some (vI (x6_36 - 1)), some (vI (x7_37 + 1)), none]) rfl ?_
            exact ih_40 _ (by omega) (x6_36 - 1) (x7_37 + 1) (zSF.s hp_43 (by omega) (by omega) (by have h := (zh_r (w := (fun j => M (M (M c0 3) 0) (60 * a1 + j))) (c := (M (M c0 5) 0)) (p := (M (M c0 5) 1)) (i := x7_37) (by omega) (by have h : ¬ M (M (M c0 3) 0) (60 * a1 + x7_37) < (M (M c0 5) 0) := (by omega); exact h) (by have h : M (M (M c0 3) 0) (60 * a1 + x7_37) < (M (M c0 5) 1) := (by omega); exact h)); exact h.trans (by omega)) (by omega)) (by omega) rfl
        · refine kx_istore 57 F 8 (lo' := [some (vR G c0), some (vI a1), some (vI a2), none, some (vI r_8), some (vI 1), some (vI x6_36), some (vI x7_37), some (vI r_47)]) dX11_partnerPlace_55 (by decide) rfl rfl rfl ?_
          refine kx_iload 59 F 8 dX11_partnerPlace_57 rfl rfl ?_
          refine kx_iload 61 F 4 dX11_partnerPlace_59 rfl rfl ?_
          refine kx_icmp_ne 64 F 70 dX11_partnerPlace_61 (by decide) rfl (by omega) (by omega) (fun h_57 => ?_) (fun h_57 => (by exfalso; omega))
          refine kx_iload 72 F 8 dX11_partnerPlace_70 rfl rfl ?_
          refine kx_iconst 73 F dX11_partnerPlace_72 rfl ?_
          refine kx_icmp_eq 76 F 87 dX11_partnerPlace_73 (by decide) rfl (by omega) (by decide) (fun h_58 => ?_) (fun h_58 => (by exfalso; omega))
          refine kx_iload 89 F 8 dX11_partnerPlace_87 rfl rfl ?_
          refine kx_iconst 90 F dX11_partnerPlace_89 rfl ?_
          refine kx_icmp_eq 93 F 96 dX11_partnerPlace_90 (by decide) rfl (by omega) (by decide) (fun h_59 => ?_) (fun h_59 => (by exfalso; omega))
          refine kx_iload 98 F 7 dX11_partnerPlace_96 rfl rfl ?_
          refine kx_iload 100 F 5 dX11_partnerPlace_98 rfl rfl ?_
          refine kx_iadd 101 F (v := x7_37 + 1) dX11_partnerPlace_100 rfl rfl ?_
          refine kx_istore 103 F 7 (lo' := [some (vR G c0), some (vI a1), some (vI a2), none, some (vI r_8), some (vI 1), some (vI x6_36), some (vI (x7_37 + 1)), some (vI r_47)]) dX11_partnerPlace_101 (by decide) rfl rfl rfl ?_
          refine kx_goto 37 F dX11_partnerPlace_103 (by decide) ?_
          refine kx_drop 8 (lo' := [some (vR G c0), some (vI a1), some (vI a2), none, some (vI r_8), some (vI 1), some (vI x6_36), some (vI (x7_37 + 1)), none]) rfl ?_
          exact ih_40 _ (by omega) x6_36 (x7_37 + 1) (zSF.s hp_43 (by omega) (by omega) (by have h := (zh_i (w := (fun j => M (M (M c0 3) 0) (60 * a1 + j))) (c := (M (M c0 5) 0)) (p := (M (M c0 5) 1)) (i := x7_37) (by omega) (by have h : ¬ M (M (M c0 3) 0) (60 * a1 + x7_37) < (M (M c0 5) 0) := (by omega); exact h) (by have h : ¬ M (M (M c0 3) 0) (60 * a1 + x7_37) < (M (M c0 5) 1) := (by omega); exact h)); exact h.trans (by omega)) (by omega)) (by omega) rfl
    refine kx_drop 3 (lo' := [some (vR G c0), some (vI a1), some (vI a2), none, some (vI r_8), some (vI 1), some (vI 0), some (vI (a3 + 1)), none]) rfl ?_
    exact L_38 _ 0 (a3 + 1) (zSF.nil (by omega) (by have h : M (M (M c0 3) 0) (60 * a1 + a3) < (M (M c0 5) 0) := (by omega); exact h) (by omega)) (by omega) rfl
  · refine kx_istore 8 F 4 (lo' := [some (vR G c0), some (vI a1), some (vI a2), some (vI a3), some (vI r_8), none, none, none, none]) dX11_partnerPlace_6 (by decide) rfl rfl rfl ?_
    refine kx_iload 10 F 4 dX11_partnerPlace_8 rfl rfl ?_
    refine kx_iconst 11 F dX11_partnerPlace_10 rfl ?_
    refine kx_icmp_ne 14 F 16 dX11_partnerPlace_11 (by decide) rfl (by omega) (by decide) (fun h_60 => ?_) (fun h_60 => (by exfalso; omega))
    refine kx_iload 18 F 4 dX11_partnerPlace_16 rfl rfl ?_
    refine kx_if_ne 21 F 25 dX11_partnerPlace_18 (by decide) rfl (by omega) (fun h_61 => ?_) (fun h_61 => (by exfalso; omega))
    refine kx_iconst 26 F dX11_partnerPlace_25 rfl ?_
    refine kx_istore 28 F 5 (lo' := [some (vR G c0), some (vI a1), some (vI a2), some (vI a3), some (vI r_8), some (vI (-1)), none, none, none]) dX11_partnerPlace_26 (by decide) rfl rfl rfl ?_
    refine kx_iconst 29 F dX11_partnerPlace_28 rfl ?_
    refine kx_istore 31 F 6 (lo' := [some (vR G c0), some (vI a1), some (vI a2), some (vI a3), some (vI r_8), some (vI (-1)), some (vI 0), none, none]) dX11_partnerPlace_29 (by decide) rfl rfl rfl ?_
    refine kx_iload_n 32 F 3 dX11_partnerPlace_31 rfl rfl rfl ?_
    refine kx_iload 34 F 5 dX11_partnerPlace_32 rfl rfl ?_
    refine kx_iadd 35 F (v := a3 - 1) dX11_partnerPlace_34 (by omega) rfl ?_
    refine kx_istore 37 F 7 (lo' := [some (vR G c0), some (vI a1), some (vI a2), some (vI a3), some (vI r_8), some (vI (-1)), some (vI 0), some (vI (a3 - 1)), none]) dX11_partnerPlace_35 (by decide) rfl rfl rfl ?_
    have L_80 : ∀ (n_81 : Nat) (x6_78 : Int) (x7_79 : Int), zSB (fun j => M (M (M c0 3) 0) (60 * a1 + j)) (M (M c0 5) 0) (M (M c0 5) 1) a3 x7_79 x6_78 → 0 ≤ x6_78 ∧ x6_78 ≤ 20 ∧ (-1) ≤ x7_79 ∧ x7_79 ≤ 18 ∧ x6_78 + x7_79 ≤ 19 ∧ x7_79 ≤ a3 - 1 → ((x7_79) - (-1)).toNat = n_81 → KJ false G X M 37 [some (vR G c0), some (vI a1), some (vI a2), none, some (vI r_8), some (vI (-1)), some (vI x6_78), some (vI x7_79), none] [] := by
      intro n_81
      refine Nat.strongRecOn n_81 ?_
      intro n_81 ih_82 x6_78 x7_79 hp_85 h_83 hm_84
      refine kx_iload 39 F 7 dX11_partnerPlace_37 rfl rfl ?_
      refine kx_if_lt 42 F 106 dX11_partnerPlace_39 (by decide) rfl (by omega) (fun h_86 => ?_) (fun h_86 => ?_)
      · refine kx_iconst 107 F dX11_partnerPlace_106 rfl ?_
        exact kx_iret F hQ ⟨rfl, (by omega), (zSB.end hp_85 (by omega))⟩ dX11_partnerPlace_107
      · refine kx_iload 44 F 7 dX11_partnerPlace_42 rfl rfl ?_
        refine kx_iload_n 45 F 2 dX11_partnerPlace_44 rfl rfl rfl ?_
        refine kx_icmp_ge 48 F 106 dX11_partnerPlace_45 (by decide) rfl (by omega) (by omega) (fun h_87 => ?_) (fun h_87 => ?_)
        · refine kx_iconst 107 F dX11_partnerPlace_106 rfl ?_
          exact kx_iret F hQ ⟨rfl, (by omega), (zSB.end hp_85 (by omega))⟩ dX11_partnerPlace_107
        · have hl_88 := hW x7_79 (by omega) (by omega)
          refine kx_aload_n 49 F 0 dX11_partnerPlace_48 rfl rfl rfl ?_
          refine kx_iload_n 50 F 1 dX11_partnerPlace_49 rfl rfl rfl ?_
          refine kx_iload 52 F 7 dX11_partnerPlace_50 rfl rfl ?_
          refine kx_Vi 55 (ci := 0) F (As := [vI a1, vI x7_79]) (st := []) vd_X11_256 (e_sortAt3 G l M c0 a1 x7_79 hI_M hk_c0 (by omega)) hk_c0 rfl rfl rfl ⟨by decide, by decide⟩ rfl rfl (Nat.le_of_ble_eq_true rfl) dX11_partnerPlace_52 rfl ?_
          intro r_89 N_90 q_91
          obtain ⟨rfl, q_91c⟩ := q_91
          rcases q_91c with q_91c | q_91c | q_91c
          · refine kx_istore 57 F 8 (lo' := [some (vR G c0), some (vI a1), some (vI a2), none, some (vI r_8), some (vI (-1)), some (vI x6_78), some (vI x7_79), some (vI r_89)]) dX11_partnerPlace_55 (by decide) rfl rfl rfl ?_
            refine kx_iload 59 F 8 dX11_partnerPlace_57 rfl rfl ?_
            refine kx_iload 61 F 4 dX11_partnerPlace_59 rfl rfl ?_
            refine kx_icmp_ne 64 F 70 dX11_partnerPlace_61 (by decide) rfl (by omega) (by omega) (fun h_92 => ?_) (fun h_92 => (by exfalso; omega))
            refine kx_iload 72 F 8 dX11_partnerPlace_70 rfl rfl ?_
            refine kx_iconst 73 F dX11_partnerPlace_72 rfl ?_
            refine kx_icmp_eq 76 F 87 dX11_partnerPlace_73 (by decide) rfl (by omega) (by decide) (fun h_93 => (by exfalso; omega)) (fun h_93 => ?_)
            refine kx_iload 78 F 6 dX11_partnerPlace_76 rfl rfl ?_
            refine kx_if_le 81 F 87 dX11_partnerPlace_78 (by decide) rfl (by omega) (fun h_94 => ?_) (fun h_94 => ?_)
            · refine kx_iload 89 F 8 dX11_partnerPlace_87 rfl rfl ?_
              refine kx_iconst 90 F dX11_partnerPlace_89 rfl ?_
              refine kx_icmp_eq 93 F 96 dX11_partnerPlace_90 (by decide) rfl (by omega) (by decide) (fun h_95 => (by exfalso; omega)) (fun h_95 => ?_)
              refine kx_iload 95 F 7 dX11_partnerPlace_93 rfl rfl ?_
              exact kx_iret F hQ ⟨rfl, (by omega), (zSB.hit hp_85 (by omega) (by omega) (by have h : M (M (M c0 3) 0) (60 * a1 + x7_79) < (M (M c0 5) 0) := (by omega); exact h))⟩ dX11_partnerPlace_95
            · refine kx_iinc 84 F 6 (v := x6_78 - 1) (lo' := [some (vR G c0), some (vI a1), some (vI a2), none, some (vI r_8), some (vI (-1)), some (vI (x6_78 - 1)), some (vI x7_79), some (vI r_89)]) dX11_partnerPlace_81 rfl (by omega) (by decide) rfl rfl rfl ?_
              refine kx_goto 96 F dX11_partnerPlace_84 (by decide) ?_
              refine kx_iload 98 F 7 dX11_partnerPlace_96 rfl rfl ?_
              refine kx_iload 100 F 5 dX11_partnerPlace_98 rfl rfl ?_
              refine kx_iadd 101 F (v := x7_79 - 1) dX11_partnerPlace_100 (by omega) rfl ?_
              refine kx_istore 103 F 7 (lo' := [some (vR G c0), some (vI a1), some (vI a2), none, some (vI r_8), some (vI (-1)), some (vI (x6_78 - 1)), some (vI (x7_79 - 1)), some (vI r_89)]) dX11_partnerPlace_101 (by decide) rfl rfl rfl ?_
              refine kx_goto 37 F dX11_partnerPlace_103 (by decide) ?_
              refine kx_drop 8 (lo' := [some (vR G c0), some (vI a1), some (vI a2), none, some (vI r_8), some (vI (-1)), some (vI (x6_78 - 1)), some (vI (x7_79 - 1)), none]) rfl ?_
              exact ih_82 _ (by omega) (x6_78 - 1) (x7_79 - 1) (zSB.s hp_85 (by omega) (by omega) (by have h := (zh_c (w := (fun j => M (M (M c0 3) 0) (60 * a1 + j))) (c := (M (M c0 5) 0)) (p := (M (M c0 5) 1)) (i := x7_79) (by omega) (by have h : M (M (M c0 3) 0) (60 * a1 + x7_79) < (M (M c0 5) 0) := (by omega); exact h)); exact h.trans (by omega)) (by omega)) (by omega) rfl
          · refine kx_istore 57 F 8 (lo' := [some (vR G c0), some (vI a1), some (vI a2), none, some (vI r_8), some (vI (-1)), some (vI x6_78), some (vI x7_79), some (vI r_89)]) dX11_partnerPlace_55 (by decide) rfl rfl rfl ?_
            refine kx_iload 59 F 8 dX11_partnerPlace_57 rfl rfl ?_
            refine kx_iload 61 F 4 dX11_partnerPlace_59 rfl rfl ?_
            refine kx_icmp_ne 64 F 70 dX11_partnerPlace_61 (by decide) rfl (by omega) (by omega) (fun h_96 => (by exfalso; omega)) (fun h_96 => ?_)
            refine kx_iinc 67 F 6 (v := x6_78 + 1) (lo' := [some (vR G c0), some (vI a1), some (vI a2), none, some (vI r_8), some (vI (-1)), some (vI (x6_78 + 1)), some (vI x7_79), some (vI r_89)]) dX11_partnerPlace_64 rfl (by omega) (by decide) rfl rfl rfl ?_
            refine kx_goto 96 F dX11_partnerPlace_67 (by decide) ?_
            refine kx_iload 98 F 7 dX11_partnerPlace_96 rfl rfl ?_
            refine kx_iload 100 F 5 dX11_partnerPlace_98 rfl rfl ?_
            refine kx_iadd 101 F (v := x7_79 - 1) dX11_partnerPlace_100 (by omega) rfl ?_
            refine kx_istore 103 F 7 (lo' := [some (vR G c0), some (vI a1), some (vI a2), none, some (vI r_8), some (vI (-1)), some (vI (x6_78 + 1)), some (vI (x7_79 - 1)), some (vI r_89)]) dX11_partnerPlace_101 (by decide) rfl rfl rfl ?_
            refine kx_goto 37 F dX11_partnerPlace_103 (by decide) ?_
            refine kx_drop 8 (lo' := [some (vR G c0), some (vI a1), some (vI a2), none, some (vI r_8), some (vI (-1)), some (vI (x6_78 + 1)), some (vI (x7_79 - 1)), none]) rfl ?_
            exact ih_82 _ (by omega) (x6_78 + 1) (x7_79 - 1) (zSB.s hp_85 (by omega) (by omega) (by have h := (zh_r (w := (fun j => M (M (M c0 3) 0) (60 * a1 + j))) (c := (M (M c0 5) 0)) (p := (M (M c0 5) 1)) (i := x7_79) (by omega) (by have h : ¬ M (M (M c0 3) 0) (60 * a1 + x7_79) < (M (M c0 5) 0) := (by omega); exact h) (by have h : M (M (M c0 3) 0) (60 * a1 + x7_79) < (M (M c0 5) 1) := (by omega); exact h)); exact h.trans (by omega)) (by omega)) (by omega) rfl
          · refine kx_istore 57 F 8 (lo' := [some (vR G c0), some (vI a1), some (vI a2), none, some (vI r_8), some (vI (-1)), some (vI x6_78), some (vI x7_79), some (vI r_89)]) dX11_partnerPlace_55 (by decide) rfl rfl rfl ?_
            refine kx_iload 59 F 8 dX11_partnerPlace_57 rfl rfl ?_
            refine kx_iload 61 F 4 dX11_partnerPlace_59 rfl rfl ?_
            refine kx_icmp_ne 64 F 70 dX11_partnerPlace_61 (by decide) rfl (by omega) (by omega) (fun h_97 => ?_) (fun h_97 => (by exfalso; omega))
            refine kx_iload 72 F 8 dX11_partnerPlace_70 rfl rfl ?_
            refine kx_iconst 73 F dX11_partnerPlace_72 rfl ?_
            refine kx_icmp_eq 76 F 87 dX11_partnerPlace_73 (by decide) rfl (by omega) (by decide) (fun h_98 => ?_) (fun h_98 => (by exfalso; omega))
            refine kx_iload 89 F 8 dX11_partnerPlace_87 rfl rfl ?_
            refine kx_iconst 90 F dX11_partnerPlace_89 rfl ?_
            refine kx_icmp_eq 93 F 96 dX11_partnerPlace_90 (by decide) rfl (by omega) (by decide) (fun h_99 => ?_) (fun h_99 => (by exfalso; omega))
            refine kx_iload 98 F 7 dX11_partnerPlace_96 rfl rfl ?_
            refine kx_iload 100 F 5 dX11_partnerPlace_98 rfl rfl ?_
            refine kx_iadd 101 F (v := x7_79 - 1) dX11_partnerPlace_100 (by omega) rfl ?_
            refine kx_istore 103 F 7 (lo' := [some (vR G c0), some (vI a1), some (vI a2), none, some (vI r_8), some (vI (-1)), some (vI x6_78), some (vI (x7_79 - 1)), some (vI r_89)]) dX11_partnerPlace_101 (by decide) rfl rfl rfl ?_
            refine kx_goto 37 F dX11_partnerPlace_103 (by decide) ?_
            refine kx_drop 8 (lo' := [some (vR G c0), some (vI a1), some (vI a2), none, some (vI r_8), some (vI (-1)), some (vI x6_78), some (vI (x7_79 - 1)), none]) rfl ?_
            exact ih_82 _ (by omega) x6_78 (x7_79 - 1) (zSB.s hp_85 (by omega) (by omega) (by have h := (zh_i (w := (fun j => M (M (M c0 3) 0) (60 * a1 + j))) (c := (M (M c0 5) 0)) (p := (M (M c0 5) 1)) (i := x7_79) (by omega) (by have h : ¬ M (M (M c0 3) 0) (60 * a1 + x7_79) < (M (M c0 5) 0) := (by omega); exact h) (by have h : ¬ M (M (M c0 3) 0) (60 * a1 + x7_79) < (M (M c0 5) 1) := (by omega); exact h)); exact h.trans (by omega)) (by omega)) (by omega) rfl
    refine kx_drop 3 (lo' := [some (vR G c0), some (vI a1), some (vI a2), none, some (vI r_8), some (vI (-1)), some (vI 0), some (vI (a3 - 1)), none]) rfl ?_
    exact L_80 _ 0 (a3 - 1) (zSB.nil (by omega) (by have h : ¬ M (M (M c0 3) 0) (60 * a1 + a3) < (M (M c0 5) 0) := (by omega); exact h) (by have h : M (M (M c0 3) 0) (60 * a1 + a3) < (M (M c0 5) 1) := (by omega); exact h) (by omega)) (by omega) rfl
  · refine kx_istore 8 F 4 (lo' := [some (vR G c0), some (vI a1), some (vI a2), some (vI a3), some (vI r_8), none, none, none, none]) dX11_partnerPlace_6 (by decide) rfl rfl rfl ?_
    refine kx_iload 10 F 4 dX11_partnerPlace_8 rfl rfl ?_
    refine kx_iconst 11 F dX11_partnerPlace_10 rfl ?_
    refine kx_icmp_ne 14 F 16 dX11_partnerPlace_11 (by decide) rfl (by omega) (by decide) (fun h_100 => (by exfalso; omega)) (fun h_100 => ?_)
    refine kx_iconst 15 F dX11_partnerPlace_14 rfl ?_
    exact kx_iret F hQ ⟨rfl, (by omega), (zPT.in (by have h : ¬ M (M (M c0 3) 0) (60 * a1 + a3) < (M (M c0 5) 0) := (by omega); exact h) (by have h : ¬ M (M (M c0 3) 0) (60 * a1 + a3) < (M (M c0 5) 1) := (by omega); exact h))⟩ dX11_partnerPlace_15
abbrev f_e_partner3 : List (Nat × Int) := [(62, 0)]
set_option maxHeartbeats 4000000 in
set_option maxRecDepth 100000 in
theorem e_partner3 (G : KG) (l : Launch) (M : Mem) (c0 : Int) (a1 : Int) (a2 : Int) (a3 : Int) (hI_M : Inv false M) (hk_c0 : kd c0 = 62) (hpre : -2147483648 ≤ a1 ∧ a1 ≤ 2147483647 ∧ -2147483648 ≤ a2 ∧ a2 ≤ 2147483647 ∧ -2147483648 ≤ a3 ∧ a3 ≤ 2147483647) : KC false G l yX11_partner cX11_partner 6 (some .int) (4, 92) [vR G c0, vI a1, vI a2, vI a3] M (fun A => kQi false G A (fun (r : Int) (N : Mem) => Inv false N ∧ Fr f_e_partner3 M N ∧ (r ≥ -1 ∧ r ≤ 19) ∧ (zPE (M (M (M c0 3) 0)) a1 a2 a3 (M (M (M c0 3) 2) a1) (M (M c0 5) 2) (M (M c0 5) 0) (M (M c0 5) 1) r))) := by
  refine kx_met (lo := [some (vR G c0), some (vI a1), some (vI a2), some (vI a3), none, none]) (by decide) (Nat.le_of_ble_eq_true rfl) rfl ?_
  intro X F hQ
  have hF_M : Fr f_e_partner3 M M := Fr.rf _ _
  have hk_1 : kd (M c0 3) = 13 := Inv.r hI_M hk_c0 rfl 3 rfl rfl
  have hk_2 : kd (M (M c0 3) 0) = 14 := Inv.r hI_M hk_1 rfl 0 rfl rfl
  have hk_3 : kd (M (M c0 3) 1) = 15 := Inv.r hI_M hk_1 rfl 1 rfl rfl
  have hk_4 : kd (M (M c0 3) 2) = 16 := Inv.r hI_M hk_1 rfl 2 rfl rfl
  have hk_5 : kd (M c0 5) = 12 := Inv.r hI_M hk_c0 rfl 5 rfl rfl
  refine kx_aload_n 1 F 0 dX11_partner_0 rfl rfl rfl ?_
  refine kx_iload_n 2 F 3 dX11_partner_1 rfl rfl rfl ?_
  refine kx_if_lt 5 F 14 dX11_partner_2 (by decide) rfl (by omega) (fun h_6 => ?_) (fun h_6 => ?_)
  · refine kx_iconst 15 F dX11_partner_14 rfl ?_
    refine kx_iload_n 16 F 1 dX11_partner_15 rfl rfl rfl ?_
    refine kx_iload_n 17 F 2 dX11_partner_16 rfl rfl rfl ?_
    refine kx_Vi 20 (ci := 0) F (As := [vI 0, vI a1, vI a2]) (st := []) vd_X11_226 (e_wordRefusal3 G l M c0 0 a1 a2 hI_M hk_c0 (by omega)) hk_c0 rfl rfl rfl ⟨by decide, by decide⟩ rfl rfl (Nat.le_of_ble_eq_true rfl) dX11_partner_17 rfl ?_
    intro r_7 N_8 q_9
    obtain ⟨rfl, q_9c, hz_N_8⟩ := q_9
    rcases q_9c with q_9c | q_9c
    · exfalso; omega
    · refine kx_istore 22 F 4 (lo' := [some (vR G c0), some (vI a1), some (vI a2), some (vI a3), some (vI r_7), none]) dX11_partner_20 (by decide) rfl rfl rfl ?_
      refine kx_iload 24 F 4 dX11_partner_22 rfl rfl ?_
      refine kx_if_eq 27 F 34 dX11_partner_24 (by decide) rfl (by omega) (fun h_10 => (by exfalso; omega)) (fun h_10 => ?_)
      refine kx_aload_n 28 F 0 dX11_partner_27 rfl rfl rfl ?_
      refine kx_iload 30 F 4 dX11_partner_28 rfl rfl ?_
      refine kx_Vi 33 (ci := 0) F (As := [vI r_7]) (st := []) vd_X11_110 (c_X11_refuse G l M c0 r_7 hI_M hk_c0 (by omega)) hk_c0 rfl rfl rfl ⟨by decide, by decide⟩ rfl rfl (Nat.le_of_ble_eq_true rfl) dX11_partner_30 rfl ?_
      intro r_11 N_12 q_13
      obtain ⟨hI_N_12, hG_N_12, q_13c⟩ := q_13
      have hF_N_12 : Fr f_e_partner3 M N_12 := Fr.c hF_M hG_N_12 rfl
      subst q_13c
      exact kx_iret F hQ ⟨hI_N_12, hF_N_12, (by omega), (Or.inr ⟨fun h => (zWR.n hz_N_8 (by omega)) ⟨by have h1 := h.1; have h2 := h.2.1; omega, h.2.2⟩, by omega⟩)⟩ dX11_partner_33
  · refine kx_iload_n 6 F 3 dX11_partner_5 rfl rfl rfl ?_
    refine kx_iload_n 7 F 2 dX11_partner_6 rfl rfl rfl ?_
    refine kx_icmp_ge 10 F 14 dX11_partner_7 (by decide) rfl (by omega) (by omega) (fun h_14 => ?_) (fun h_14 => ?_)
    · refine kx_iconst 15 F dX11_partner_14 rfl ?_
      refine kx_iload_n 16 F 1 dX11_partner_15 rfl rfl rfl ?_
      refine kx_iload_n 17 F 2 dX11_partner_16 rfl rfl rfl ?_
      refine kx_Vi 20 (ci := 0) F (As := [vI 0, vI a1, vI a2]) (st := []) vd_X11_226 (e_wordRefusal3 G l M c0 0 a1 a2 hI_M hk_c0 (by omega)) hk_c0 rfl rfl rfl ⟨by decide, by decide⟩ rfl rfl (Nat.le_of_ble_eq_true rfl) dX11_partner_17 rfl ?_
      intro r_15 N_16 q_17
      obtain ⟨rfl, q_17c, hz_N_16⟩ := q_17
      rcases q_17c with q_17c | q_17c
      · exfalso; omega
      · refine kx_istore 22 F 4 (lo' := [some (vR G c0), some (vI a1), some (vI a2), some (vI a3), some (vI r_15), none]) dX11_partner_20 (by decide) rfl rfl rfl ?_
        refine kx_iload 24 F 4 dX11_partner_22 rfl rfl ?_
        refine kx_if_eq 27 F 34 dX11_partner_24 (by decide) rfl (by omega) (fun h_18 => (by exfalso; omega)) (fun h_18 => ?_)
        refine kx_aload_n 28 F 0 dX11_partner_27 rfl rfl rfl ?_
        refine kx_iload 30 F 4 dX11_partner_28 rfl rfl ?_
        refine kx_Vi 33 (ci := 0) F (As := [vI r_15]) (st := []) vd_X11_110 (c_X11_refuse G l M c0 r_15 hI_M hk_c0 (by omega)) hk_c0 rfl rfl rfl ⟨by decide, by decide⟩ rfl rfl (Nat.le_of_ble_eq_true rfl) dX11_partner_30 rfl ?_
        intro r_19 N_20 q_21
        obtain ⟨hI_N_20, hG_N_20, q_21c⟩ := q_21
        have hF_N_20 : Fr f_e_partner3 M N_20 := Fr.c hF_M hG_N_20 rfl
        subst q_21c
        exact kx_iret F hQ ⟨hI_N_20, hF_N_20, (by omega), (Or.inr ⟨fun h => (zWR.n hz_N_16 (by omega)) ⟨by have h1 := h.1; have h2 := h.2.1; omega, h.2.2⟩, by omega⟩)⟩ dX11_partner_33
    · refine kx_iconst 11 F dX11_partner_10 rfl ?_
      refine kx_goto 15 F dX11_partner_11 (by decide) ?_
      refine kx_iload_n 16 F 1 dX11_partner_15 rfl rfl rfl ?_
      refine kx_iload_n 17 F 2 dX11_partner_16 rfl rfl rfl ?_
      refine kx_Vi 20 (ci := 0) F (As := [vI 1, vI a1, vI a2]) (st := []) vd_X11_226 (e_wordRefusal3 G l M c0 1 a1 a2 hI_M hk_c0 (by omega)) hk_c0 rfl rfl rfl ⟨by decide, by decide⟩ rfl rfl (Nat.le_of_ble_eq_true rfl) dX11_partner_17 rfl ?_
      intro r_22 N_23 q_24
      obtain ⟨rfl, q_24c, hz_N_23⟩ := q_24
      rcases q_24c with q_24c | q_24c
      · refine kx_istore 22 F 4 (lo' := [some (vR G c0), some (vI a1), some (vI a2), some (vI a3), some (vI r_22), none]) dX11_partner_20 (by decide) rfl rfl rfl ?_
        refine kx_iload 24 F 4 dX11_partner_22 rfl rfl ?_
        refine kx_if_eq 27 F 34 dX11_partner_24 (by decide) rfl (by omega) (fun h_25 => ?_) (fun h_25 => (by exfalso; omega))
        have hwo := zWR.y hz_N_23 (by omega)
        have hwr : 0 ≤ a1 ∧ a1 ≤ 3 ∧ 0 ≤ a2 ∧ a2 ≤ 20 := ⟨hwo.1, hwo.2.1, hwo.2.2.1, hwo.2.2.2.1⟩
        refine kx_aload_n 35 F 0 dX11_partner_34 rfl rfl rfl ?_
        refine kx_iload_n 36 F 1 dX11_partner_35 rfl rfl rfl ?_
        refine kx_iload_n 37 F 2 dX11_partner_36 rfl rfl rfl ?_
        refine kx_iload_n 38 F 3 dX11_partner_37 rfl rfl rfl ?_
        refine kx_Vi 41 (ci := 0) F (As := [vI a1, vI a2, vI a3]) (st := []) vd_X11_264 (e_partnerPlace3 G l M c0 a1 a2 a3 hI_M hk_c0 (by omega) (zWR.y hz_N_23 (by omega)).2.2.2.2.2.2) hk_c0 rfl rfl rfl ⟨by decide, by decide⟩ rfl rfl (Nat.le_of_ble_eq_true rfl) dX11_partner_38 rfl ?_
        intro r_26 N_27 q_28
        obtain ⟨rfl, q_28c, hp_N_27⟩ := q_28
        refine kx_istore 43 F 5 (lo' := [some (vR G c0), some (vI a1), some (vI a2), some (vI a3), some (vI r_22), some (vI r_26)]) dX11_partner_41 (by decide) rfl rfl rfl ?_
        refine kx_iload 45 F 5 dX11_partner_43 rfl rfl ?_
        refine kx_iconst 46 F dX11_partner_45 rfl ?_
        refine kx_icmp_ne 49 F 58 dX11_partner_46 (by decide) rfl (by omega) (by decide) (fun h_29 => ?_) (fun h_29 => ?_)
        · refine kx_aload_n 59 F 0 dX11_partner_58 rfl rfl rfl ?_
          refine kx_iload 61 F 5 dX11_partner_59 rfl rfl ?_
          refine kx_Vi 64 (ci := 0) F (As := [vI r_26]) (st := []) vd_X11_145 (c_X11_answer G l M c0 r_26 hI_M hk_c0 (by omega)) hk_c0 rfl rfl rfl ⟨by decide, by decide⟩ rfl rfl (Nat.le_of_ble_eq_true rfl) dX11_partner_61 rfl ?_
          intro r_30 N_31 q_32
          obtain ⟨hI_N_31, hG_N_31, q_32c⟩ := q_32
          have hF_N_31 : Fr f_e_partner3 M N_31 := Fr.c hF_M hG_N_31 rfl
          exact kx_iret F hQ ⟨hI_N_31, hF_N_31, (by omega), (Or.inl ⟨⟨by omega, by omega, zWR.y hz_N_23 (by omega)⟩, zPT.cv hp_N_27 (by omega)⟩)⟩ dX11_partner_64
        · refine kx_aload_n 50 F 0 dX11_partner_49 rfl rfl rfl ?_
          refine kx_bipush 52 F dX11_partner_50 (by decide) rfl ?_
          refine kx_Vi 55 (ci := 0) F (As := [vI 6]) (st := []) vd_X11_110 (c_X11_refuse G l M c0 6 hI_M hk_c0 (by omega)) hk_c0 rfl rfl rfl ⟨by decide, by decide⟩ rfl rfl (Nat.le_of_ble_eq_true rfl) dX11_partner_52 rfl ?_
          intro r_33 N_34 q_35
          obtain ⟨hI_N_34, hG_N_34, q_35c⟩ := q_35
          have hF_N_34 : Fr f_e_partner3 M N_34 := Fr.c hF_M hG_N_34 rfl
          subst q_35c
          refine kx_goto 64 F dX11_partner_55 (by decide) ?_
          exact kx_iret F hQ ⟨hI_N_34, hF_N_34, (by omega), (Or.inl ⟨⟨by omega, by omega, zWR.y hz_N_23 (by omega)⟩, zPT.cv hp_N_27 (by omega)⟩)⟩ dX11_partner_64
      · refine kx_istore 22 F 4 (lo' := [some (vR G c0), some (vI a1), some (vI a2), some (vI a3), some (vI r_22), none]) dX11_partner_20 (by decide) rfl rfl rfl ?_
        refine kx_iload 24 F 4 dX11_partner_22 rfl rfl ?_
        refine kx_if_eq 27 F 34 dX11_partner_24 (by decide) rfl (by omega) (fun h_36 => (by exfalso; omega)) (fun h_36 => ?_)
        refine kx_aload_n 28 F 0 dX11_partner_27 rfl rfl rfl ?_
        refine kx_iload 30 F 4 dX11_partner_28 rfl rfl ?_
        refine kx_Vi 33 (ci := 0) F (As := [vI r_22]) (st := []) vd_X11_110 (c_X11_refuse G l M c0 r_22 hI_M hk_c0 (by omega)) hk_c0 rfl rfl rfl ⟨by decide, by decide⟩ rfl rfl (Nat.le_of_ble_eq_true rfl) dX11_partner_30 rfl ?_
        intro r_37 N_38 q_39
        obtain ⟨hI_N_38, hG_N_38, q_39c⟩ := q_39
        have hF_N_38 : Fr f_e_partner3 M N_38 := Fr.c hF_M hG_N_38 rfl
        subst q_39c
        exact kx_iret F hQ ⟨hI_N_38, hF_N_38, (by omega), (Or.inr ⟨fun h => (zWR.n hz_N_23 (by omega)) ⟨by have h1 := h.1; have h2 := h.2.1; omega, h.2.2⟩, by omega⟩)⟩ dX11_partner_33
