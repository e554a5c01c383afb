abbrev f_e_fill_step : List (Nat × Int) := [(6, -1)]
set_option maxHeartbeats 4000000 in
set_option maxRecDepth 100000 in
theorem e_fill_step (G : KG) (l : Launch) (M : Mem) (c0 : Int) (a1 : Int) (hI_M : Inv false M) (hk_c0 : kd c0 = 6) (hpre : -2147483648 ≤ a1 ∧ a1 ≤ 2147483647 ∧ 0 ≤ a1 ∧ a1 ≤ 511) : KC false G l yJ7_fill_53178 cJ7_fill_53178 4 none (0, 0) [vR G c0, vI a1] M (fun A => kQv false G A (fun (N : Mem) => Inv false N ∧ Fr f_e_fill_step M N ∧ Cf (fun x => x = c0) M N ∧ (zFL N c0 6 a1))) := by
  refine kx_met (lo := [some (vR G c0), some (vI a1), none, none]) (by decide) (Nat.le_of_ble_eq_true rfl) rfl ?_
  intro X F hQ
  have hF_M : Fr f_e_fill_step M M := Fr.rf _ _
  have hE_M : Cf (fun x => x = c0) M M := Cf.rf _ _
  refine kx_iconst 1 F dJ7_fill_53178_0 rfl ?_
  refine kx_istore_n 2 F 2 (lo' := [some (vR G c0), some (vI a1), some (vI 0), none]) dJ7_fill_53178_1 rfl (by decide) rfl rfl rfl ?_
  refine kx_aload_n 3 F 0 dJ7_fill_53178_2 rfl rfl rfl ?_
  refine kx_alen 4 F hk_c0 rfl rfl (z := 6) (by decide) dJ7_fill_53178_3 rfl ?_
  refine kx_istore_n 5 F 3 (lo' := [some (vR G c0), some (vI a1), some (vI 0), some (vI 6)]) dJ7_fill_53178_4 rfl (by decide) rfl rfl rfl ?_
  have L_31 : ∀ (n_32 : Nat) (x2_29 : Int) (N_30 : Mem), Inv false N_30 → Fr f_e_fill_step M N_30 → Cf (fun x => x = c0) M N_30 → zFL N_30 c0 x2_29 a1 → 0 ≤ x2_29 ∧ x2_29 ≤ 6 → (6 - (x2_29)).toNat = n_32 → KJ false G X N_30 5 [some (vR G c0), some (vI a1), some (vI x2_29), some (vI 6)] [] := by
    intro n_32
    refine Nat.strongRecOn n_32 ?_
    intro n_32 ih_33 x2_29 N_30 hI_N_30 hF_N_30 hE_N_30 hp_36 h_34 hm_35
    refine kx_iload_n 6 F 2 dJ7_fill_53178_5 rfl rfl rfl ?_
    refine kx_iload_n 7 F 3 dJ7_fill_53178_6 rfl rfl rfl ?_
    refine kx_icmp_ge 10 F 20 dJ7_fill_53178_7 (by decide) rfl (by omega) (by decide) (fun h_37 => ?_) (fun h_37 => ?_)
    · exact kx_vret F hQ ⟨hI_N_30, hF_N_30, hE_N_30, (zFL.at hp_36 (by omega))⟩ dJ7_fill_53178_20
    · refine kx_aload_n 11 F 0 dJ7_fill_53178_10 rfl rfl rfl ?_
      refine kx_iload_n 12 F 2 dJ7_fill_53178_11 rfl rfl rfl ?_
      refine kx_iload_n 13 F 1 dJ7_fill_53178_12 rfl rfl rfl ?_
      refine kx_iast 14 F hk_c0 rfl rfl (by omega) (by decide) dJ7_fill_53178_13 rfl ?_
      intro N_38 hM_N_38
      have hI_N_38 : Inv false N_38 := Inv.u hI_N_30 hM_N_38 hk_c0 (a := 0) (b := 511) rfl rfl rfl (by omega)
      have hF_N_38 : Fr f_e_fill_step M N_38 := Fr.u hF_N_30 hM_N_38 hk_c0 rfl
      have hE_N_38 : Cf (fun x => x = c0) M N_38 := Cf.st hE_N_30 hM_N_38 rfl
      refine kx_iinc 17 F 2 (v := x2_29 + 1) (lo' := [some (vR G c0), some (vI a1), some (vI (x2_29 + 1)), some (vI 6)]) dJ7_fill_53178_14 rfl (by omega) (by decide) rfl rfl rfl ?_
      refine kx_goto 5 F dJ7_fill_53178_17 (by decide) ?_
      exact ih_33 _ (by omega) (x2_29 + 1) N_38 hI_N_38 hF_N_38 hE_N_38 (zFL.step hp_36 (by omega) hM_N_38) (by omega) rfl
  exact L_31 _ 0 M hI_M hF_M hE_M zFL.nil (by omega) rfl
abbrev f_e_fill_stacked : List (Nat × Int) := [(7, -1)]
set_option maxHeartbeats 4000000 in
set_option maxRecDepth 100000 in
theorem e_fill_stacked (G : KG) (l : Launch) (M : Mem) (c0 : Int) (a1 : Int) (hI_M : Inv false M) (hk_c0 : kd c0 = 7) (hpre : -2147483648 ≤ a1 ∧ a1 ≤ 2147483647 ∧ 0 ≤ a1 ∧ a1 ≤ 511) : KC false G l yJ7_fill_53178 cJ7_fill_53178 4 none (0, 0) [vR G c0, vI a1] M (fun A => kQv false G A (fun (N : Mem) => Inv false N ∧ Fr f_e_fill_stacked M N ∧ Cf (fun x => x = c0) M N ∧ (zFL N c0 18 a1))) := by
  refine kx_met (lo := [some (vR G c0), some (vI a1), none, none]) (by decide) (Nat.le_of_ble_eq_true rfl) rfl ?_
  intro X F hQ
  have hF_M : Fr f_e_fill_stacked M M := Fr.rf _ _
  have hE_M : Cf (fun x => x = c0) M M := Cf.rf _ _
  refine kx_iconst 1 F dJ7_fill_53178_0 rfl ?_
  refine kx_istore_n 2 F 2 (lo' := [some (vR G c0), some (vI a1), some (vI 0), none]) dJ7_fill_53178_1 rfl (by decide) rfl rfl rfl ?_
  refine kx_aload_n 3 F 0 dJ7_fill_53178_2 rfl rfl rfl ?_
  refine kx_alen 4 F hk_c0 rfl rfl (z := 18) (by decide) dJ7_fill_53178_3 rfl ?_
  refine kx_istore_n 5 F 3 (lo' := [some (vR G c0), some (vI a1), some (vI 0), some (vI 18)]) dJ7_fill_53178_4 rfl (by decide) rfl rfl rfl ?_
  have L_31 : ∀ (n_32 : Nat) (x2_29 : Int) (N_30 : Mem), Inv false N_30 → Fr f_e_fill_stacked M N_30 → Cf (fun x => x = c0) M N_30 → zFL N_30 c0 x2_29 a1 → 0 ≤ x2_29 ∧ x2_29 ≤ 18 → (18 - (x2_29)).toNat = n_32 → KJ false G X N_30 5 [some (vR G c0), some (vI a1), some (vI x2_29), some (vI 18)] [] := by
    intro n_32
    refine Nat.strongRecOn n_32 ?_
    intro n_32 ih_33 x2_29 N_30 hI_N_30 hF_N_30 hE_N_30 hp_36 h_34 hm_35
    refine kx_iload_n 6 F 2 dJ7_fill_53178_5 rfl rfl rfl ?_
    refine kx_iload_n 7 F 3 dJ7_fill_53178_6 rfl rfl rfl ?_
    refine kx_icmp_ge 10 F 20 dJ7_fill_53178_7 (by decide) rfl (by omega) (by decide) (fun h_37 => ?_) (fun h_37 => ?_)
    · exact kx_vret F hQ ⟨hI_N_30, hF_N_30, hE_N_30, (zFL.at hp_36 (by omega))⟩ dJ7_fill_53178_20
    · refine kx_aload_n 11 F 0 dJ7_fill_53178_10 rfl rfl rfl ?_
      refine kx_iload_n 12 F 2 dJ7_fill_53178_11 rfl rfl rfl ?_
      refine kx_iload_n 13 F 1 dJ7_fill_53178_12 rfl rfl rfl ?_
      refine kx_iast 14 F hk_c0 rfl rfl (by omega) (by decide) dJ7_fill_53178_13 rfl ?_
      intro N_38 hM_N_38
      have hI_N_38 : Inv false N_38 := Inv.u hI_N_30 hM_N_38 hk_c0 (a := 0) (b := 511) rfl rfl rfl (by omega)
      have hF_N_38 : Fr f_e_fill_stacked M N_38 := Fr.u hF_N_30 hM_N_38 hk_c0 rfl
      have hE_N_38 : Cf (fun x => x = c0) M N_38 := Cf.st hE_N_30 hM_N_38 rfl
      refine kx_iinc 17 F 2 (v := x2_29 + 1) (lo' := [some (vR G c0), some (vI a1), some (vI (x2_29 + 1)), some (vI 18)]) dJ7_fill_53178_14 rfl (by omega) (by decide) rfl rfl rfl ?_
      refine kx_goto 5 F dJ7_fill_53178_17 (by decide) ?_
      exact ih_33 _ (by omega) (x2_29 + 1) N_38 hI_N_38 hF_N_38 hE_N_38 (zFL.step hp_36 (by omega) hM_N_38) (by omega) rfl
  exact L_31 _ 0 M hI_M hF_M hE_M zFL.nil (by omega) rfl
set_option maxHeartbeats 4000000 in
set_option maxRecDepth 100000 in
theorem e_X2_pair (G : KG) (l : Launch) (M : Mem) (a0 : Int) (a1 : Int) (hI_M : Inv false M) (hpre : -2147483648 ≤ a0 ∧ a0 ≤ 2147483647 ∧ -2147483648 ≤ a1 ∧ a1 ≤ 2147483647 ∧ 0 ≤ a0 ∧ a0 ≤ 2 ∧ 0 ≤ a1 ∧ a1 ≤ 2) : KC false G l yX2_pair cX2_pair 2 (some .int) (0, 0) [vI a0, vI a1] M (fun A => kQi false G A (fun (r : Int) (N : Mem) => M = N ∧ (r = (zshl 1 (3 * a0 + a1)) ∧ 1 ≤ r ∧ r ≤ 256))) := by
  refine kx_met (lo := [some (vI a0), some (vI a1)]) (by decide) (Nat.le_of_ble_eq_true rfl) rfl ?_
  intro X F hQ
  refine kx_iconst 1 F dX2_pair_0 rfl ?_
  refine kx_iconst 2 F dX2_pair_1 rfl ?_
  refine kx_iload_n 3 F 0 dX2_pair_2 rfl rfl rfl ?_
  refine kx_imul 4 F (v := 3 * a0) dX2_pair_3 (by omega) rfl ?_
  refine kx_iload_n 5 F 1 dX2_pair_4 rfl rfl rfl ?_
  refine kx_iadd 6 F (v := 3 * a0 + a1) dX2_pair_5 rfl rfl ?_
  refine kx_ishl 7 F (v := (zshl 1 (3 * a0 + a1))) dX2_pair_6 rfl rfl ?_
  have h_1 := zshl_1 (b := 3 * a0 + a1) 8 (by decide) (by omega)
  exact kx_iret F hQ ⟨rfl, (by omega)⟩ dX2_pair_7
abbrev f_e_X0_note : List (Nat × Int) := [(6, -1), (7, -1)]
set_option maxHeartbeats 4000000 in
set_option maxRecDepth 100000 in
theorem e_X0_note (G : KG) (l : Launch) (M : Mem) (c0 : Int) (a1 : Int) (hI_M : Inv false M) (hk_c0 : kd c0 = 1) (hpre : -2147483648 ≤ a1 ∧ a1 ≤ 2147483647 ∧ 0 ≤ a1 ∧ a1 ≤ 19) : KC false G l yX0_note cX0_note 3 none (1, 21) [vR G c0, vI a1] M (fun A => kQv false G A (fun (N : Mem) => Inv false N ∧ Fr f_e_X0_note M N ∧ Cf (SA M c0) M N ∧ (zNO M N c0 a1))) := by
  refine kx_met (lo := [some (vR G c0), some (vI a1), none]) (by decide) (Nat.le_of_ble_eq_true rfl) rfl ?_
  intro X F hQ
  have hF_M : Fr f_e_X0_note M M := Fr.rf _ _
  have hE_M : Cf (SA M c0) M M := Cf.rf _ _
  have hk_1 : kd (M c0 6) = 2 := Inv.r hI_M hk_c0 rfl 6 rfl rfl
  have hk_2 : kd (M c0 7) = 3 := Inv.r hI_M hk_c0 rfl 7 rfl rfl
  have hk_3 : kd (M c0 8) = 4 := Inv.r hI_M hk_c0 rfl 8 rfl rfl
  have hk_4 : kd (M c0 9) = 5 := Inv.r hI_M hk_c0 rfl 9 rfl rfl
  have hk_5 : kd (M c0 10) = 6 := Inv.r hI_M hk_c0 rfl 10 rfl rfl
  have hk_6 : kd (M c0 11) = 7 := Inv.r hI_M hk_c0 rfl 11 rfl rfl
  refine kx_aload_n 1 F 0 dX0_note_0 rfl rfl rfl ?_
  refine kx_getr 4 F fl_X0_15 hk_c0 rfl rfl (j := 7) rfl dX0_note_1 (v := (M c0 7)) rfl rfl ?_
  refine kx_iload_n 5 F 1 dX0_note_4 rfl rfl rfl ?_
  refine kx_iald 6 F hk_2 rfl rfl (by omega) (by decide) dX0_note_5 (v := (M (M c0 7) a1)) rfl rfl ?_
  have h_7 := Inv.g hI_M hk_2 rfl a1 (a := 0) (b := 2) rfl rfl
  refine kx_aload_n 7 F 0 dX0_note_6 rfl rfl rfl ?_
  refine kx_getr 10 F fl_X0_18 hk_c0 rfl rfl (j := 8) rfl dX0_note_7 (v := (M c0 8)) rfl rfl ?_
  refine kx_iload_n 11 F 1 dX0_note_10 rfl rfl rfl ?_
  refine kx_iald 12 F hk_3 rfl rfl (by omega) (by decide) dX0_note_11 (v := (M (M c0 8) a1)) rfl rfl ?_
  have h_8 := Inv.g hI_M hk_3 rfl a1 (a := 0) (b := 2) rfl rfl
  refine kx_Si 15 F (As := [vI (M (M c0 7) a1), vI (M (M c0 8) a1)]) (st := []) sd_X0_72 (e_X2_pair G l M (M (M c0 7) a1) (M (M c0 8) a1) hI_M (by omega)) ⟨by decide, by decide⟩ rfl rfl (Nat.le_of_ble_eq_true rfl) dX0_note_12 rfl ?_
  intro r_9 N_10 q_11
  obtain ⟨rfl, q_11c⟩ := q_11
  have hpr : r_9 = zpr (M (M c0 7)) (M (M c0 8)) a1 := by unfold zpr; omega
  refine kx_istore_n 16 F 2 (lo' := [some (vR G c0), some (vI a1), some (vI r_9)]) dX0_note_15 rfl (by decide) rfl rfl rfl ?_
  refine kx_aload_n 17 F 0 dX0_note_16 rfl rfl rfl ?_
  refine kx_getr 20 F fl_X0_21 hk_c0 rfl rfl (j := 9) rfl dX0_note_17 (v := (M c0 9)) rfl rfl ?_
  refine kx_iload_n 21 F 1 dX0_note_20 rfl rfl rfl ?_
  refine kx_iald 22 F hk_4 rfl rfl (by omega) (by decide) dX0_note_21 (v := (M (M c0 9) a1)) rfl rfl ?_
  have h_12 := Inv.g hI_M hk_4 rfl a1 (a := (-1)) (b := 2) rfl rfl
  refine kx_iconst 23 F dX0_note_22 rfl ?_
  refine kx_icmp_eq 26 F 50 dX0_note_23 (by decide) rfl (by omega) (by decide) (fun h_13 => ?_) (fun h_13 => ?_)
  · refine kx_aload_n 51 F 0 dX0_note_50 rfl rfl rfl ?_
    refine kx_getr 54 F fl_X0_21 hk_c0 rfl rfl (j := 9) rfl dX0_note_51 (v := (M c0 9)) rfl rfl ?_
    refine kx_iload_n 55 F 1 dX0_note_54 rfl rfl rfl ?_
    refine kx_iald 56 F hk_4 rfl rfl (by omega) (by decide) dX0_note_55 (v := (M (M c0 9) a1)) rfl rfl ?_
    refine kx_iconst 57 F dX0_note_56 rfl ?_
    refine kx_icmp_eq 60 F 73 dX0_note_57 (by decide) rfl (by omega) (by decide) (fun h_14 => ?_) (fun h_14 => (by exfalso; omega))
    refine kx_aload_n 74 F 0 dX0_note_73 rfl rfl rfl ?_
    refine kx_getr 77 F fl_X0_24 hk_c0 rfl rfl (j := 10) rfl dX0_note_74 (v := (M c0 10)) rfl rfl ?_
    refine kx_aload_n 78 F 0 dX0_note_77 rfl rfl rfl ?_
    refine kx_getr 81 F fl_X0_9 hk_c0 rfl rfl (j := 6) rfl dX0_note_78 (v := (M c0 6)) rfl rfl ?_
    refine kx_iload_n 82 F 1 dX0_note_81 rfl rfl rfl ?_
    refine kx_iald 83 F hk_1 rfl rfl (by omega) (by decide) dX0_note_82 (v := (M (M c0 6) a1)) rfl rfl ?_
    have h_15 := Inv.g hI_M hk_1 rfl a1 (a := 0) (b := 5) rfl rfl
    refine kx_dup2 84 F dX0_note_83 rfl rfl rfl ?_
    refine kx_iald 85 F hk_5 rfl rfl (by omega) (by decide) dX0_note_84 (v := (M (M c0 10) (M (M c0 6) a1))) rfl rfl ?_
    have h_16 := Inv.g hI_M hk_5 rfl (M (M c0 6) a1) (a := 0) (b := 511) rfl rfl
    refine kx_iload_n 86 F 2 dX0_note_85 rfl rfl rfl ?_
    refine kx_ior 87 F (v := (zor (M (M c0 10) (M (M c0 6) a1)) r_9)) dX0_note_86 rfl rfl ?_
    have h_17 : 0 ≤ (zor (M (M c0 10) (M (M c0 6) a1)) r_9) ∧ (zor (M (M c0 10) (M (M c0 6) a1)) r_9) < 512 := zor_lt (a := (M (M c0 10) (M (M c0 6) a1))) (b := r_9) 9 (by decide) (by omega) (by omega)
    refine kx_iast 88 F hk_5 rfl rfl (by omega) (by decide) dX0_note_87 rfl ?_
    intro N_18 hM_N_18
    have hI_N_18 : Inv false N_18 := Inv.u hI_M hM_N_18 hk_5 (a := 0) (b := 511) rfl rfl rfl (by omega)
    have hF_N_18 : Fr f_e_X0_note M N_18 := Fr.u hF_M hM_N_18 hk_5 rfl
    have hE_N_18 : Cf (SA M c0) M N_18 := Cf.st hE_M hM_N_18 (sa_10 M c0)
    exact kx_vret F hQ ⟨hI_N_18, hF_N_18, hE_N_18, ⟨(fun l => by rw [hM_N_18, mu_at, hpr]; exact zno_y (by omega)), (fun l g h0 h1 => by rw [hM_N_18, mu_k hk_6 hk_5 rfl]; exact zno_m (by omega) (by omega))⟩⟩ dX0_note_88
  · refine kx_aload_n 27 F 0 dX0_note_26 rfl rfl rfl ?_
    refine kx_getr 30 F fl_X0_27 hk_c0 rfl rfl (j := 11) rfl dX0_note_27 (v := (M c0 11)) rfl rfl ?_
    refine kx_aload_n 31 F 0 dX0_note_30 rfl rfl rfl ?_
    refine kx_getr 34 F fl_X0_9 hk_c0 rfl rfl (j := 6) rfl dX0_note_31 (v := (M c0 6)) rfl rfl ?_
    refine kx_iload_n 35 F 1 dX0_note_34 rfl rfl rfl ?_
    refine kx_iald 36 F hk_1 rfl rfl (by omega) (by decide) dX0_note_35 (v := (M (M c0 6) a1)) rfl rfl ?_
    have h_19 := Inv.g hI_M hk_1 rfl a1 (a := 0) (b := 5) rfl rfl
    refine kx_iconst 37 F dX0_note_36 rfl ?_
    refine kx_imul 38 F (v := 3 * (M (M c0 6) a1)) dX0_note_37 (by omega) rfl ?_
    refine kx_aload_n 39 F 0 dX0_note_38 rfl rfl rfl ?_
    refine kx_getr 42 F fl_X0_21 hk_c0 rfl rfl (j := 9) rfl dX0_note_39 (v := (M c0 9)) rfl rfl ?_
    refine kx_iload_n 43 F 1 dX0_note_42 rfl rfl rfl ?_
    refine kx_iald 44 F hk_4 rfl rfl (by omega) (by decide) dX0_note_43 (v := (M (M c0 9) a1)) rfl rfl ?_
    refine kx_iadd 45 F (v := 3 * (M (M c0 6) a1) + (M (M c0 9) a1)) dX0_note_44 rfl rfl ?_
    refine kx_dup2 46 F dX0_note_45 rfl rfl rfl ?_
    refine kx_iald 47 F hk_6 rfl rfl (by omega) (by decide) dX0_note_46 (v := (M (M c0 11) (3 * (M (M c0 6) a1) + (M (M c0 9) a1)))) rfl rfl ?_
    have h_20 := Inv.g hI_M hk_6 rfl (3 * (M (M c0 6) a1) + (M (M c0 9) a1)) (a := 0) (b := 511) rfl rfl
    refine kx_iload_n 48 F 2 dX0_note_47 rfl rfl rfl ?_
    refine kx_ior 49 F (v := (zor (M (M c0 11) (3 * (M (M c0 6) a1) + (M (M c0 9) a1))) r_9)) dX0_note_48 rfl rfl ?_
    have h_21 : 0 ≤ (zor (M (M c0 11) (3 * (M (M c0 6) a1) + (M (M c0 9) a1))) r_9) ∧ (zor (M (M c0 11) (3 * (M (M c0 6) a1) + (M (M c0 9) a1))) r_9) < 512 := zor_lt (a := (M (M c0 11) (3 * (M (M c0 6) a1) + (M (M c0 9) a1)))) (b := r_9) 9 (by decide) (by omega) (by omega)
    refine kx_iast 50 F hk_6 rfl rfl (by omega) (by decide) dX0_note_49 rfl ?_
    intro N_22 hM_N_22
    have hI_N_22 : Inv false N_22 := Inv.u hI_M hM_N_22 hk_6 (a := 0) (b := 511) rfl rfl rfl (by omega)
    have hF_N_22 : Fr f_e_X0_note M N_22 := Fr.u hF_M hM_N_22 hk_6 rfl
    have hE_N_22 : Cf (SA M c0) M N_22 := Cf.st hE_M hM_N_22 (sa_11 M c0)
    refine kx_aload_n 51 F 0 dX0_note_50 rfl rfl rfl ?_
    refine kx_getr 54 F fl_X0_21 hk_c0 rfl rfl (j := 9) rfl dX0_note_51 (v := (M c0 9)) (by rw [hM_N_22, mu_k hk_c0 hk_6 rfl]) rfl ?_
    refine kx_iload_n 55 F 1 dX0_note_54 rfl rfl rfl ?_
    refine kx_iald 56 F hk_4 rfl rfl (by omega) (by decide) dX0_note_55 (v := (M (M c0 9) a1)) (by rw [hM_N_22, mu_k hk_4 hk_6 rfl]) rfl ?_
    refine kx_iconst 57 F dX0_note_56 rfl ?_
    refine kx_icmp_eq 60 F 73 dX0_note_57 (by decide) rfl (by omega) (by decide) (fun h_23 => (by exfalso; omega)) (fun h_23 => ?_)
    refine kx_aload_n 61 F 0 dX0_note_60 rfl rfl rfl ?_
    refine kx_getr 64 F fl_X0_9 hk_c0 rfl rfl (j := 6) rfl dX0_note_61 (v := (M c0 6)) (by rw [hM_N_22, mu_k hk_c0 hk_6 rfl]) rfl ?_
    refine kx_iload_n 65 F 1 dX0_note_64 rfl rfl rfl ?_
    refine kx_iald 66 F hk_1 rfl rfl (by omega) (by decide) dX0_note_65 (v := (M (M c0 6) a1)) (by rw [hM_N_22, mu_k hk_1 hk_6 rfl]) rfl ?_
    refine kx_aload_n 67 F 0 dX0_note_66 rfl rfl rfl ?_
    refine kx_geti 70 F fl_X0_30 hk_c0 rfl rfl (j := 5) rfl dX0_note_67 (v := (M c0 5)) (by rw [hM_N_22, mu_k hk_c0 hk_6 rfl]) rfl ?_
    have h_24 := Inv.g hI_M hk_c0 rfl 5 (a := 0) (b := 2) rfl rfl
    refine kx_icmp_ge 73 F 88 dX0_note_70 (by decide) rfl (by omega) (by omega) (fun h_25 => ?_) (fun h_25 => ?_)
    · exact kx_vret F hQ ⟨hI_N_22, hF_N_22, hE_N_22, ⟨(fun l => by rw [hM_N_22, mu_k hk_5 hk_6 rfl]; exact zno_n (by omega)), (fun l g h0 h1 => by rw [hM_N_22, mu_at, hpr]; exact zno_k (i := 3 * (M (M c0 6) a1) + (M (M c0 9) a1)) (by omega) (by omega) (by omega))⟩⟩ dX0_note_88
    · refine kx_aload_n 74 F 0 dX0_note_73 rfl rfl rfl ?_
      refine kx_getr 77 F fl_X0_24 hk_c0 rfl rfl (j := 10) rfl dX0_note_74 (v := (M c0 10)) (by rw [hM_N_22, mu_k hk_c0 hk_6 rfl]) rfl ?_
      refine kx_aload_n 78 F 0 dX0_note_77 rfl rfl rfl ?_
      refine kx_getr 81 F fl_X0_9 hk_c0 rfl rfl (j := 6) rfl dX0_note_78 (v := (M c0 6)) (by rw [hM_N_22, mu_k hk_c0 hk_6 rfl]) rfl ?_
      refine kx_iload_n 82 F 1 dX0_note_81 rfl rfl rfl ?_
      refine kx_iald 83 F hk_1 rfl rfl (by omega) (by decide) dX0_note_82 (v := (M (M c0 6) a1)) (by rw [hM_N_22, mu_k hk_1 hk_6 rfl]) rfl ?_
      refine kx_dup2 84 F dX0_note_83 rfl rfl rfl ?_
      refine kx_iald 85 F hk_5 rfl rfl (by omega) (by decide) dX0_note_84 (v := (M (M c0 10) (M (M c0 6) a1))) (by rw [hM_N_22, mu_k hk_5 hk_6 rfl]) rfl ?_
      have h_26 := Inv.g hI_M hk_5 rfl (M (M c0 6) a1) (a := 0) (b := 511) rfl rfl
      refine kx_iload_n 86 F 2 dX0_note_85 rfl rfl rfl ?_
      refine kx_ior 87 F (v := (zor (M (M c0 10) (M (M c0 6) a1)) r_9)) dX0_note_86 rfl rfl ?_
      have h_27 : 0 ≤ (zor (M (M c0 10) (M (M c0 6) a1)) r_9) ∧ (zor (M (M c0 10) (M (M c0 6) a1)) r_9) < 512 := zor_lt (a := (M (M c0 10) (M (M c0 6) a1))) (b := r_9) 9 (by decide) (by omega) (by omega)
      refine kx_iast 88 F hk_5 rfl rfl (by omega) (by decide) dX0_note_87 rfl ?_
      intro N_28 hM_N_28
      have hI_N_28 : Inv false N_28 := Inv.u hI_N_22 hM_N_28 hk_5 (a := 0) (b := 511) rfl rfl rfl (by omega)
      have hF_N_28 : Fr f_e_X0_note M N_28 := Fr.u hF_N_22 hM_N_28 hk_5 rfl
      have hE_N_28 : Cf (SA M c0) M N_28 := Cf.st hE_N_22 hM_N_28 (sa_10 M c0)
      exact kx_vret F hQ ⟨hI_N_28, hF_N_28, hE_N_28, ⟨(fun l => by rw [hM_N_28, mu_at, hM_N_22, mu_k hk_5 hk_6 rfl, hpr]; exact zno_y (by omega)), (fun l g h0 h1 => by rw [hM_N_28, mu_k hk_6 hk_5 rfl, hM_N_22, mu_at, hpr]; exact zno_k (i := 3 * (M (M c0 6) a1) + (M (M c0 9) a1)) (by omega) (by omega) (by omega))⟩⟩ dX0_note_88
abbrev f_e_X0_renew : List (Nat × Int) := [(6, -1), (7, -1)]
set_option maxHeartbeats 4000000 in
set_option maxRecDepth 100000 in
theorem e_X0_renew (G : KG) (l : Launch) (M : Mem) (c0 : Int) (hI_M : Inv false M) (hk_c0 : kd c0 = 1) : KC false G l yX0_renew cX0_renew 2 none (2, 43) [vR G c0] M (fun A => kQv false G A (fun (N : Mem) => Inv false N ∧ Fr f_e_X0_renew M N ∧ Cf (SA M c0) M N ∧ (zAW N c0 (N c0 4)))) := by
  refine kx_met (lo := [some (vR G c0), none]) (by decide) (Nat.le_of_ble_eq_true rfl) rfl ?_
  intro X F hQ
  have hF_M : Fr f_e_X0_renew M M := Fr.rf _ _
  have hE_M : Cf (SA M c0) M M := Cf.rf _ _
  have hk_1 : kd (M c0 6) = 2 := Inv.r hI_M hk_c0 rfl 6 rfl rfl
  have hk_2 : kd (M c0 7) = 3 := Inv.r hI_M hk_c0 rfl 7 rfl rfl
  have hk_3 : kd (M c0 8) = 4 := Inv.r hI_M hk_c0 rfl 8 rfl rfl
  have hk_4 : kd (M c0 9) = 5 := Inv.r hI_M hk_c0 rfl 9 rfl rfl
  have hk_5 : kd (M c0 10) = 6 := Inv.r hI_M hk_c0 rfl 10 rfl rfl
  have hk_6 : kd (M c0 11) = 7 := Inv.r hI_M hk_c0 rfl 11 rfl rfl
  refine kx_aload_n 1 F 0 dX0_renew_0 rfl rfl rfl ?_
  refine kx_getr 4 F fl_X0_24 hk_c0 rfl rfl (j := 10) rfl dX0_renew_1 (v := (M c0 10)) rfl rfl ?_
  refine kx_iconst 5 F dX0_renew_4 rfl ?_
  refine kx_Sv 8 F (As := [vR G (M c0 10), vI 0]) (st := []) sd_X0_56 (e_fill_step G l M (M c0 10) 0 hI_M hk_5 (by omega)) ⟨by decide, by decide⟩ rfl rfl (Nat.le_of_ble_eq_true rfl) dX0_renew_5 rfl ?_
  intro N_7 q_8
  obtain ⟨hI_N_7, hG_N_7, hC_N_7, hfl_N_7⟩ := q_8
  have hF_N_7 : Fr f_e_X0_renew M N_7 := Fr.c hF_M hG_N_7 rfl
  have hE_N_7 : Cf (SA M c0) M N_7 := Cf.c hE_M hC_N_7 (fun x hx => by have e : x = (M c0 10) := hx; rw [e]; exact (sa_10 M c0))
  refine kx_aload_n 9 F 0 dX0_renew_8 rfl rfl rfl ?_
  refine kx_getr 12 F fl_X0_27 hk_c0 rfl rfl (j := 11) rfl dX0_renew_9 (v := (M c0 11)) (by rw [Fr.e hG_N_7 hk_c0 _ rfl]) rfl ?_
  refine kx_iconst 13 F dX0_renew_12 rfl ?_
  refine kx_Sv 16 F (As := [vR G (M c0 11), vI 0]) (st := []) sd_X0_56 (e_fill_stacked G l N_7 (M c0 11) 0 hI_N_7 hk_6 (by omega)) ⟨by decide, by decide⟩ rfl rfl (Nat.le_of_ble_eq_true rfl) dX0_renew_13 rfl ?_
  intro N_9 q_10
  obtain ⟨hI_N_9, hG_N_9, hC_N_9, hfl_N_9⟩ := q_10
  have hF_N_9 : Fr f_e_X0_renew M N_9 := Fr.c hF_N_7 hG_N_9 rfl
  have hE_N_9 : Cf (SA M c0) M N_9 := Cf.c hE_N_7 hC_N_9 (fun x hx => by have e : x = (M c0 11) := hx; rw [e]; exact (sa_11 M c0))
  refine kx_iconst 17 F dX0_renew_16 rfl ?_
  refine kx_istore_n 18 F 1 (lo' := [some (vR G c0), some (vI 0)]) dX0_renew_17 rfl (by decide) rfl rfl rfl ?_
  have L_55 : ∀ (n_56 : Nat) (x1_53 : Int) (N_54 : Mem), Inv false N_54 → Fr f_e_X0_renew M N_54 → Cf (SA M c0) M N_54 → zAW N_54 c0 x1_53 → 0 ≤ x1_53 ∧ x1_53 ≤ 20 ∧ x1_53 ≤ (N_54 c0 4) → (20 - (x1_53)).toNat = n_56 → KJ false G X N_54 18 [some (vR G c0), some (vI x1_53)] [] := by
    intro n_56
    refine Nat.strongRecOn n_56 ?_
    intro n_56 ih_57 x1_53 N_54 hI_N_54 hF_N_54 hE_N_54 hp_60 h_58 hm_59
    refine kx_iload_n 19 F 1 dX0_renew_18 rfl rfl rfl ?_
    refine kx_aload_n 20 F 0 dX0_renew_19 rfl rfl rfl ?_
    refine kx_geti 23 F fl_X0_46 hk_c0 rfl rfl (j := 4) rfl dX0_renew_20 (v := (M c0 4)) (by rw [Fr.e hF_N_54 hk_c0 _ rfl]) rfl ?_
    have h_61 := Inv.g hI_M hk_c0 rfl 4 (a := 0) (b := 20) rfl rfl
    refine kx_icmp_ge 26 F 37 dX0_renew_23 (by decide) rfl (by omega) (by omega) (fun h_62 => ?_) (fun h_62 => ?_)
    · have e_63 : (N_54 c0 4) = (M c0 4) := by rw [Fr.e hF_N_54 hk_c0 _ rfl]
      exact kx_vret F hQ ⟨hI_N_54, hF_N_54, hE_N_54, (zAW.at hp_60 (by omega))⟩ dX0_renew_37
    · refine kx_aload_n 27 F 0 dX0_renew_26 rfl rfl rfl ?_
      refine kx_iload_n 28 F 1 dX0_renew_27 rfl rfl rfl ?_
      refine kx_Vv 31 (ci := 0) F (As := [vI x1_53]) (st := []) vd_X0_68 (e_X0_note G l N_54 c0 x1_53 hI_N_54 hk_c0 (by omega)) hk_c0 rfl rfl rfl ⟨by decide, by decide⟩ rfl rfl (Nat.le_of_ble_eq_true rfl) dX0_renew_28 rfl ?_
      intro N_64 q_65
      obtain ⟨hI_N_64, hG_N_64, hC_N_64, hno_N_64⟩ := q_65
      have hF_N_64 : Fr f_e_X0_renew M N_64 := Fr.c hF_N_54 hG_N_64 rfl
      have hE_N_64 : Cf (SA M c0) M N_64 := Cf.c hE_N_54 hC_N_64 (fun _ hx => SA.fr hx hk_c0 hF_N_54 rfl)
      refine kx_iinc 34 F 1 (v := x1_53 + 1) (lo' := [some (vR G c0), some (vI (x1_53 + 1))]) dX0_renew_31 rfl (by omega) (by decide) rfl rfl rfl ?_
      refine kx_goto 18 F dX0_renew_34 (by decide) ?_
      have e_66 : (N_64 c0 4) = (M c0 4) := by rw [Fr.e hG_N_64 hk_c0 _ rfl, Fr.e hF_N_54 hk_c0 _ rfl]
      exact ih_57 _ (by omega) (x1_53 + 1) N_64 hI_N_64 hF_N_64 hE_N_64 (zAW.note hp_60 hno_N_64 (by omega) (by omega) (Fr.e hG_N_64 hk_c0 _ rfl) (Fr.e hG_N_64 hk_c0 _ rfl) (Fr.e hG_N_64 hk_c0 _ rfl) (Fr.e hG_N_64 hk_c0 _ rfl) (Fr.e hG_N_64 hk_c0 _ rfl) (Fr.e hG_N_64 hk_c0 _ rfl) (Fr.e hG_N_64 hk_c0 _ rfl) (Fr.fn hG_N_64 (Inv.r hI_N_54 hk_c0 rfl 6 rfl rfl) rfl) (Fr.fn hG_N_64 (Inv.r hI_N_54 hk_c0 rfl 7 rfl rfl) rfl) (Fr.fn hG_N_64 (Inv.r hI_N_54 hk_c0 rfl 8 rfl rfl) rfl) (Fr.fn hG_N_64 (Inv.r hI_N_54 hk_c0 rfl 9 rfl rfl) rfl)) (by omega) rfl
  have e_67 : (N_9 c0 4) = (M c0 4) := by rw [Fr.e hG_N_9 hk_c0 _ rfl, Fr.e hG_N_7 hk_c0 _ rfl]
  have h_68 := Inv.g hI_M hk_c0 rfl 4 (a := 0) (b := 20) rfl rfl
  exact L_55 _ 0 N_9 hI_N_9 hF_N_9 hE_N_9 (zAW.z (fun j h0 h1 => by rw [show N_9 c0 10 = M c0 10 from (by rw [Fr.e hG_N_9 hk_c0 _ rfl, Fr.e hG_N_7 hk_c0 _ rfl]), Fr.e hG_N_9 hk_5 _ rfl]; exact hfl_N_7 j h0 h1) (fun j h0 h1 => by rw [show N_9 c0 11 = M c0 11 from (by rw [Fr.e hG_N_9 hk_c0 _ rfl, Fr.e hG_N_7 hk_c0 _ rfl])]; exact hfl_N_9 j h0 h1)) (by omega) rfl
abbrev f_e_X0_clear : List (Nat × Int) := [(1, 0), (1, 1), (1, 2), (1, 3), (1, 4), (1, 5), (6, -1), (7, -1)]
set_option maxHeartbeats 4000000 in
set_option maxRecDepth 100000 in
theorem e_X0_clear (G : KG) (l : Launch) (M : Mem) (c0 : Int) (a1 : Int) (a2 : Int) (a3 : Int) (hI_M : Inv false M) (hk_c0 : kd c0 = 1) (hpre : -2147483648 ≤ a1 ∧ a1 ≤ 2147483647 ∧ -2147483648 ≤ a2 ∧ a2 ≤ 2147483647 ∧ -2147483648 ≤ a3 ∧ a3 ≤ 2147483647 ∧ 0 ≤ a1 ∧ a1 ≤ 2 ∧ 1 ≤ a2 ∧ a2 ≤ 3 ∧ 1 ≤ a3 ∧ a3 ≤ 3) : KC false G l yX0_clear cX0_clear 4 none (3, 64) [vR G c0, vI a1, vI a2, vI a3] M (fun A => kQv false G A (fun (N : Mem) => Inv false N ∧ Fr f_e_X0_clear M N ∧ ((N c0 0) = a2 ∧ (N c0 1) = a3 ∧ (N c0 2) = 0 ∧ (N c0 3) = 0 ∧ (N c0 4) = 0 ∧ (N c0 5) = a1) ∧ Cf (SA M c0) M N ∧ (zAW N c0 0))) := by
  refine kx_met (lo := [some (vR G c0), some (vI a1), some (vI a2), some (vI a3)]) (by decide) (Nat.le_of_ble_eq_true rfl) rfl ?_
  intro X F hQ
  have hF_M : Fr f_e_X0_clear M M := Fr.rf _ _
  have hE_M : Cf (SA M c0) M M := Cf.rf _ _
  refine kx_aload_n 1 F 0 dX0_clear_0 rfl rfl rfl ?_
  refine kx_iload_n 2 F 1 dX0_clear_1 rfl rfl rfl ?_
  refine kx_puti 5 F fw_X0_30 rfl hk_c0 rfl rfl (j := 5) rfl dX0_clear_2 rfl ?_
  intro N_1 hM_N_1
  have hI_N_1 : Inv false N_1 := Inv.u hI_M hM_N_1 hk_c0 (a := 0) (b := 2) rfl rfl rfl (by omega)
  have hF_N_1 : Fr f_e_X0_clear M N_1 := Fr.u hF_M hM_N_1 hk_c0 rfl
  have hE_N_1 : Cf (SA M c0) M N_1 := Cf.st hE_M hM_N_1 (sa_0 M c0)
  refine kx_aload_n 6 F 0 dX0_clear_5 rfl rfl rfl ?_
  refine kx_iload_n 7 F 2 dX0_clear_6 rfl rfl rfl ?_
  refine kx_puti 10 F fw_X0_34 rfl hk_c0 rfl rfl (j := 0) rfl dX0_clear_7 rfl ?_
  intro N_2 hM_N_2
  have hI_N_2 : Inv false N_2 := Inv.u hI_N_1 hM_N_2 hk_c0 (a := 0) (b := 3) rfl rfl rfl (by omega)
  have hF_N_2 : Fr f_e_X0_clear M N_2 := Fr.u hF_N_1 hM_N_2 hk_c0 rfl
  have hE_N_2 : Cf (SA M c0) M N_2 := Cf.st hE_N_1 hM_N_2 (sa_0 M c0)
  refine kx_aload_n 11 F 0 dX0_clear_10 rfl rfl rfl ?_
  refine kx_iload_n 12 F 3 dX0_clear_11 rfl rfl rfl ?_
  refine kx_puti 15 F fw_X0_37 rfl hk_c0 rfl rfl (j := 1) rfl dX0_clear_12 rfl ?_
  intro N_3 hM_N_3
  have hI_N_3 : Inv false N_3 := Inv.u hI_N_2 hM_N_3 hk_c0 (a := 0) (b := 3) rfl rfl rfl (by omega)
  have hF_N_3 : Fr f_e_X0_clear M N_3 := Fr.u hF_N_2 hM_N_3 hk_c0 rfl
  have hE_N_3 : Cf (SA M c0) M N_3 := Cf.st hE_N_2 hM_N_3 (sa_0 M c0)
  refine kx_aload_n 16 F 0 dX0_clear_15 rfl rfl rfl ?_
  refine kx_iconst 17 F dX0_clear_16 rfl ?_
  refine kx_puti 20 F fw_X0_40 rfl hk_c0 rfl rfl (j := 2) rfl dX0_clear_17 rfl ?_
  intro N_4 hM_N_4
  have hI_N_4 : Inv false N_4 := Inv.u hI_N_3 hM_N_4 hk_c0 (a := 0) (b := 7) rfl rfl rfl (by omega)
  have hF_N_4 : Fr f_e_X0_clear M N_4 := Fr.u hF_N_3 hM_N_4 hk_c0 rfl
  have hE_N_4 : Cf (SA M c0) M N_4 := Cf.st hE_N_3 hM_N_4 (sa_0 M c0)
  refine kx_aload_n 21 F 0 dX0_clear_20 rfl rfl rfl ?_
  refine kx_iconst 22 F dX0_clear_21 rfl ?_
  refine kx_puti 25 F fw_X0_43 rfl hk_c0 rfl rfl (j := 3) rfl dX0_clear_22 rfl ?_
  intro N_5 hM_N_5
  have hI_N_5 : Inv false N_5 := Inv.u hI_N_4 hM_N_5 hk_c0 (a := 0) (b := 7) rfl rfl rfl (by omega)
  have hF_N_5 : Fr f_e_X0_clear M N_5 := Fr.u hF_N_4 hM_N_5 hk_c0 rfl
  have hE_N_5 : Cf (SA M c0) M N_5 := Cf.st hE_N_4 hM_N_5 (sa_0 M c0)
  refine kx_aload_n 26 F 0 dX0_clear_25 rfl rfl rfl ?_
  refine kx_iconst 27 F dX0_clear_26 rfl ?_
  refine kx_puti 30 F fw_X0_46 rfl hk_c0 rfl rfl (j := 4) rfl dX0_clear_27 rfl ?_
  intro N_6 hM_N_6
  have hI_N_6 : Inv false N_6 := Inv.u hI_N_5 hM_N_6 hk_c0 (a := 0) (b := 20) rfl rfl rfl (by omega)
  have hF_N_6 : Fr f_e_X0_clear M N_6 := Fr.u hF_N_5 hM_N_6 hk_c0 rfl
  have hE_N_6 : Cf (SA M c0) M N_6 := Cf.st hE_N_5 hM_N_6 (sa_0 M c0)
  refine kx_aload_n 31 F 0 dX0_clear_30 rfl rfl rfl ?_
  refine kx_Vv 34 (ci := 0) F (As := []) (st := []) vd_X0_49 (e_X0_renew G l N_6 c0 hI_N_6 hk_c0) hk_c0 rfl rfl rfl ⟨by decide, by decide⟩ rfl rfl (Nat.le_of_ble_eq_true rfl) dX0_clear_31 rfl ?_
  intro N_7 q_8
  obtain ⟨hI_N_7, hG_N_7, hC_N_7, hzw_N_7⟩ := q_8
  have hF_N_7 : Fr f_e_X0_clear M N_7 := Fr.c hF_N_6 hG_N_7 rfl
  have hE_N_7 : Cf (SA M c0) M N_7 := Cf.c hE_N_6 hC_N_7 (fun _ hx => SA.fr hx hk_c0 hF_N_6 rfl)
  have e_9 : (N_7 c0 0) = a2 := by rw [Fr.e hG_N_7 hk_c0 _ rfl, hM_N_6, mu_i (by omega), hM_N_5, mu_i (by omega), hM_N_4, mu_i (by omega), hM_N_3, mu_i (by omega), hM_N_2, mu_s]
  have e_10 : (N_7 c0 1) = a3 := by rw [Fr.e hG_N_7 hk_c0 _ rfl, hM_N_6, mu_i (by omega), hM_N_5, mu_i (by omega), hM_N_4, mu_i (by omega), hM_N_3, mu_s]
  have e_11 : (N_7 c0 2) = 0 := by rw [Fr.e hG_N_7 hk_c0 _ rfl, hM_N_6, mu_i (by omega), hM_N_5, mu_i (by omega), hM_N_4, mu_s]
  have e_12 : (N_7 c0 3) = 0 := by rw [Fr.e hG_N_7 hk_c0 _ rfl, hM_N_6, mu_i (by omega), hM_N_5, mu_s]
  have e_13 : (N_7 c0 4) = 0 := by rw [Fr.e hG_N_7 hk_c0 _ rfl, hM_N_6, mu_s]
  have e_14 : (N_7 c0 5) = a1 := by rw [Fr.e hG_N_7 hk_c0 _ rfl, hM_N_6, mu_i (by omega), hM_N_5, mu_i (by omega), hM_N_4, mu_i (by omega), hM_N_3, mu_i (by omega), hM_N_2, mu_i (by omega), hM_N_1, mu_s]
  exact kx_vret F hQ ⟨hI_N_7, hF_N_7, (by omega), hE_N_7, (zAW.at hzw_N_7 (by omega))⟩ dX0_clear_34
set_option maxHeartbeats 4000000 in
set_option maxRecDepth 100000 in
theorem e_X0_find (G : KG) (l : Launch) (M : Mem) (c0 : Int) (a1 : Int) (a2 : Int) (a3 : Int) (a4 : Int) (hI_M : Inv false M) (hk_c0 : kd c0 = 1) (hpre : -2147483648 ≤ a1 ∧ a1 ≤ 2147483647 ∧ -2147483648 ≤ a2 ∧ a2 ≤ 2147483647 ∧ -2147483648 ≤ a3 ∧ a3 ≤ 2147483647 ∧ -2147483648 ≤ a4 ∧ a4 ≤ 2147483647) (q : Int → Int) (b : Int) (hA : AT M c0 q b) : KC false G l yX0_find cX0_find 6 (some .int) (0, 0) [vR G c0, vI a1, vI a2, vI a3, vI a4] M (fun A => kQi false G A (fun (r : Int) (N : Mem) => M = N ∧ ((r ≥ 0 ∧ r ≤ 19 ∧ (rq q b a1 a2 a3 a4) = 1) ∨ (r = -1 ∧ (rq q b a1 a2 a3 a4) = 0)))) := by
  refine kx_met (lo := [some (vR G c0), some (vI a1), some (vI a2), some (vI a3), some (vI a4), none]) (by decide) (Nat.le_of_ble_eq_true rfl) rfl ?_
  intro X F hQ
  have hAn := hA.num
  refine kx_iconst 1 F dX0_find_0 rfl ?_
  refine kx_istore 3 F 5 (lo' := [some (vR G c0), some (vI a1), some (vI a2), some (vI a3), some (vI a4), some (vI 0)]) dX0_find_1 (by decide) rfl rfl rfl ?_
  have L_128 : ∀ (n_129 : Nat) (x5_127 : Int), RN M q b a1 a2 a3 a4 x5_127 → 0 ≤ x5_127 ∧ x5_127 ≤ 20 → (20 - (x5_127)).toNat = n_129 → KJ false G X M 3 [some (vR G c0), some (vI a1), some (vI a2), some (vI a3), some (vI a4), some (vI x5_127)] [] := by
    intro n_129
    refine Nat.strongRecOn n_129 ?_
    intro n_129 ih_130 x5_127 hp_133 h_131 hm_132
    refine kx_iload 5 F 5 dX0_find_3 rfl rfl ?_
    refine kx_aload_n 6 F 0 dX0_find_5 rfl rfl rfl ?_
    refine kx_geti 9 F fl_X0_46 hk_c0 rfl rfl (j := 4) rfl dX0_find_6 (v := (M c0 4)) rfl rfl ?_
    have h_134 := Inv.g hI_M hk_c0 rfl 4 (a := 0) (b := 20) rfl rfl
    refine kx_icmp_ge 12 F 66 dX0_find_9 (by decide) rfl (by omega) (by omega) (fun h_135 => ?_) (fun h_135 => ?_)
    · have hd_136 : rq q b a1 a2 a3 a4 = 0 := RN.fin hp_133 (by omega)
      refine kx_iconst 67 F dX0_find_66 rfl ?_
      exact kx_iret F hQ ⟨rfl, (by omega)⟩ dX0_find_67
    · have hr_137 := hA.rul x5_127 (by omega) (by omega)
      refine kx_aload_n 13 F 0 dX0_find_12 rfl rfl rfl ?_
      refine kx_getr 16 F fl_X0_9 hk_c0 rfl rfl (j := 6) rfl dX0_find_13 (v := (M c0 6)) rfl rfl ?_
      have hk_138 : kd (M c0 6) = 2 := Inv.r hI_M hk_c0 rfl 6 rfl rfl
      refine kx_iload 18 F 5 dX0_find_16 rfl rfl ?_
      refine kx_iald 19 F hk_138 rfl rfl (by omega) (by decide) dX0_find_18 (v := (M (M c0 6) x5_127)) rfl rfl ?_
      have h_139 := Inv.g hI_M hk_138 rfl x5_127 (a := 0) (b := 5) rfl rfl
      refine kx_iload_n 20 F 1 dX0_find_19 rfl rfl rfl ?_
      refine kx_icmp_ne 23 F 60 dX0_find_20 (by decide) rfl (by omega) (by omega) (fun h_140 => ?_) (fun h_140 => ?_)
      · refine kx_iinc 63 F 5 (v := x5_127 + 1) (lo' := [some (vR G c0), some (vI a1), some (vI a2), some (vI a3), some (vI a4), some (vI (x5_127 + 1))]) dX0_find_60 rfl (by omega) (by decide) rfl rfl rfl ?_
        refine kx_goto 3 F dX0_find_63 (by decide) ?_
        exact ih_130 _ (by omega) (x5_127 + 1) (RN.step hp_133 (by omega)) (by omega) rfl
      · refine kx_aload_n 24 F 0 dX0_find_23 rfl rfl rfl ?_
        refine kx_getr 27 F fl_X0_15 hk_c0 rfl rfl (j := 7) rfl dX0_find_24 (v := (M c0 7)) rfl rfl ?_
        have hk_141 : kd (M c0 7) = 3 := Inv.r hI_M hk_c0 rfl 7 rfl rfl
        refine kx_iload 29 F 5 dX0_find_27 rfl rfl ?_
        refine kx_iald 30 F hk_141 rfl rfl (by omega) (by decide) dX0_find_29 (v := (M (M c0 7) x5_127)) rfl rfl ?_
        have h_142 := Inv.g hI_M hk_141 rfl x5_127 (a := 0) (b := 2) rfl rfl
        refine kx_iload_n 31 F 2 dX0_find_30 rfl rfl rfl ?_
        refine kx_icmp_ne 34 F 60 dX0_find_31 (by decide) rfl (by omega) (by omega) (fun h_143 => ?_) (fun h_143 => ?_)
        · refine kx_iinc 63 F 5 (v := x5_127 + 1) (lo' := [some (vR G c0), some (vI a1), some (vI a2), some (vI a3), some (vI a4), some (vI (x5_127 + 1))]) dX0_find_60 rfl (by omega) (by decide) rfl rfl rfl ?_
          refine kx_goto 3 F dX0_find_63 (by decide) ?_
          exact ih_130 _ (by omega) (x5_127 + 1) (RN.step hp_133 (by omega)) (by omega) rfl
        · refine kx_aload_n 35 F 0 dX0_find_34 rfl rfl rfl ?_
          refine kx_getr 38 F fl_X0_18 hk_c0 rfl rfl (j := 8) rfl dX0_find_35 (v := (M c0 8)) rfl rfl ?_
          have hk_144 : kd (M c0 8) = 4 := Inv.r hI_M hk_c0 rfl 8 rfl rfl
          refine kx_iload 40 F 5 dX0_find_38 rfl rfl ?_
          refine kx_iald 41 F hk_144 rfl rfl (by omega) (by decide) dX0_find_40 (v := (M (M c0 8) x5_127)) rfl rfl ?_
          have h_145 := Inv.g hI_M hk_144 rfl x5_127 (a := 0) (b := 2) rfl rfl
          refine kx_iload_n 42 F 3 dX0_find_41 rfl rfl rfl ?_
          refine kx_icmp_ne 45 F 60 dX0_find_42 (by decide) rfl (by omega) (by omega) (fun h_146 => ?_) (fun h_146 => ?_)
          · refine kx_iinc 63 F 5 (v := x5_127 + 1) (lo' := [some (vR G c0), some (vI a1), some (vI a2), some (vI a3), some (vI a4), some (vI (x5_127 + 1))]) dX0_find_60 rfl (by omega) (by decide) rfl rfl rfl ?_
            refine kx_goto 3 F dX0_find_63 (by decide) ?_
            exact ih_130 _ (by omega) (x5_127 + 1) (RN.step hp_133 (by omega)) (by omega) rfl
          · refine kx_aload_n 46 F 0 dX0_find_45 rfl rfl rfl ?_
            refine kx_getr 49 F fl_X0_21 hk_c0 rfl rfl (j := 9) rfl dX0_find_46 (v := (M c0 9)) rfl rfl ?_
            have hk_147 : kd (M c0 9) = 5 := Inv.r hI_M hk_c0 rfl 9 rfl rfl
            refine kx_iload 51 F 5 dX0_find_49 rfl rfl ?_
            refine kx_iald 52 F hk_147 rfl rfl (by omega) (by decide) dX0_find_51 (v := (M (M c0 9) x5_127)) rfl rfl ?_
            have h_148 := Inv.g hI_M hk_147 rfl x5_127 (a := (-1)) (b := 2) rfl rfl
            refine kx_iload 54 F 4 dX0_find_52 rfl rfl ?_
            refine kx_icmp_ne 57 F 60 dX0_find_54 (by decide) rfl (by omega) (by omega) (fun h_149 => ?_) (fun h_149 => ?_)
            · refine kx_iinc 63 F 5 (v := x5_127 + 1) (lo' := [some (vR G c0), some (vI a1), some (vI a2), some (vI a3), some (vI a4), some (vI (x5_127 + 1))]) dX0_find_60 rfl (by omega) (by decide) rfl rfl rfl ?_
              refine kx_goto 3 F dX0_find_63 (by decide) ?_
              exact ih_130 _ (by omega) (x5_127 + 1) (RN.step hp_133 (by omega)) (by omega) rfl
            · have hd_150 : rq q b a1 a2 a3 a4 = 1 := RN.hit (x := x5_127) (by omega) (by omega) (by omega) (by omega) (by omega)
              refine kx_iload 59 F 5 dX0_find_57 rfl rfl ?_
              exact kx_iret F hQ ⟨rfl, (by omega)⟩ dX0_find_59
  exact L_128 _ 0 RN.nil (by omega) rfl
abbrev f_e_X0_append : List (Nat × Int) := [(1, 4), (2, -1), (3, -1), (4, -1), (5, -1), (6, -1), (7, -1)]
set_option maxHeartbeats 4000000 in
set_option maxRecDepth 100000 in
theorem e_X0_append (G : KG) (l : Launch) (M : Mem) (c0 : Int) (a1 : Int) (a2 : Int) (a3 : Int) (a4 : Int) (hI_M : Inv false M) (hk_c0 : kd c0 = 1) (hpre : -2147483648 ≤ a1 ∧ a1 ≤ 2147483647 ∧ -2147483648 ≤ a2 ∧ a2 ≤ 2147483647 ∧ -2147483648 ≤ a3 ∧ a3 ≤ 2147483647 ∧ -2147483648 ≤ a4 ∧ a4 ≤ 2147483647 ∧ 0 ≤ a1 ∧ a1 ≤ 5 ∧ 0 ≤ a2 ∧ a2 ≤ 2 ∧ 0 ≤ a3 ∧ a3 ≤ 2 ∧ -1 ≤ a4 ∧ a4 ≤ 2 ∧ (M c0 4) ≤ 19) (q : Int → Int) (b : Int) (hA : AT M c0 q b) (hb : 0 < b) : KC false G l yX0_append cX0_append 5 none (2, 43) [vR G c0, vI a1, vI a2, vI a3, vI a4] M (fun A => kQv false G A (fun (N : Mem) => Inv false N ∧ Fr f_e_X0_append M N ∧ Cf (SA M c0) M N ∧ (AT N c0 (uprul q b a1 a2 a3 a4) b))) := by
  refine kx_met (lo := [some (vR G c0), some (vI a1), some (vI a2), some (vI a3), some (vI a4)]) (by decide) (Nat.le_of_ble_eq_true rfl) rfl ?_
  intro X F hQ
  have hF_M : Fr f_e_X0_append M M := Fr.rf _ _
  have hE_M : Cf (SA M c0) M M := Cf.rf _ _
  have h_1 := Inv.g hI_M hk_c0 rfl 4 (a := 0) (b := 20) rfl rfl
  have hAn := hA.num
  have hk_2 : kd (M c0 6) = 2 := Inv.r hI_M hk_c0 rfl 6 rfl rfl
  have hk_3 : kd (M c0 7) = 3 := Inv.r hI_M hk_c0 rfl 7 rfl rfl
  have hk_4 : kd (M c0 8) = 4 := Inv.r hI_M hk_c0 rfl 8 rfl rfl
  have hk_5 : kd (M c0 9) = 5 := Inv.r hI_M hk_c0 rfl 9 rfl rfl
  have hk_6 : kd (M c0 10) = 6 := Inv.r hI_M hk_c0 rfl 10 rfl rfl
  have hk_7 : kd (M c0 11) = 7 := Inv.r hI_M hk_c0 rfl 11 rfl rfl
  refine kx_aload_n 1 F 0 dX0_append_0 rfl rfl rfl ?_
  refine kx_geti 4 F fl_X0_46 hk_c0 rfl rfl (j := 4) rfl dX0_append_1 (v := (M c0 4)) rfl rfl ?_
  refine kx_bipush 6 F dX0_append_4 (by decide) rfl ?_
  refine kx_icmp_lt 9 F 10 dX0_append_6 (by decide) rfl (by omega) (by decide) (fun h_8 => ?_) (fun h_8 => (by exfalso; omega))
  refine kx_aload_n 11 F 0 dX0_append_10 rfl rfl rfl ?_
  refine kx_getr 14 F fl_X0_9 hk_c0 rfl rfl (j := 6) rfl dX0_append_11 (v := (M c0 6)) rfl rfl ?_
  refine kx_aload_n 15 F 0 dX0_append_14 rfl rfl rfl ?_
  refine kx_geti 18 F fl_X0_46 hk_c0 rfl rfl (j := 4) rfl dX0_append_15 (v := (M c0 4)) rfl rfl ?_
  refine kx_iload_n 19 F 1 dX0_append_18 rfl rfl rfl ?_
  refine kx_iast 20 F hk_2 rfl rfl (by omega) (by decide) dX0_append_19 rfl ?_
  intro N_9 hM_N_9
  have hI_N_9 : Inv false N_9 := Inv.u hI_M hM_N_9 hk_2 (a := 0) (b := 5) rfl rfl rfl (by omega)
  have hF_N_9 : Fr f_e_X0_append M N_9 := Fr.u hF_M hM_N_9 hk_2 rfl
  have hE_N_9 : Cf (SA M c0) M N_9 := Cf.st hE_M hM_N_9 (sa_6 M c0)
  refine kx_aload_n 21 F 0 dX0_append_20 rfl rfl rfl ?_
  refine kx_getr 24 F fl_X0_15 hk_c0 rfl rfl (j := 7) rfl dX0_append_21 (v := (M c0 7)) (by rw [hM_N_9, mu_k hk_c0 hk_2 rfl]) rfl ?_
  refine kx_aload_n 25 F 0 dX0_append_24 rfl rfl rfl ?_
  refine kx_geti 28 F fl_X0_46 hk_c0 rfl rfl (j := 4) rfl dX0_append_25 (v := (M c0 4)) (by rw [hM_N_9, mu_k hk_c0 hk_2 rfl]) rfl ?_
  refine kx_iload_n 29 F 2 dX0_append_28 rfl rfl rfl ?_
  refine kx_iast 30 F hk_3 rfl rfl (by omega) (by decide) dX0_append_29 rfl ?_
  intro N_10 hM_N_10
  have hI_N_10 : Inv false N_10 := Inv.u hI_N_9 hM_N_10 hk_3 (a := 0) (b := 2) rfl rfl rfl (by omega)
  have hF_N_10 : Fr f_e_X0_append M N_10 := Fr.u hF_N_9 hM_N_10 hk_3 rfl
  have hE_N_10 : Cf (SA M c0) M N_10 := Cf.st hE_N_9 hM_N_10 (sa_7 M c0)
  refine kx_aload_n 31 F 0 dX0_append_30 rfl rfl rfl ?_
  refine kx_getr 34 F fl_X0_18 hk_c0 rfl rfl (j := 8) rfl dX0_append_31 (v := (M c0 8)) (by rw [hM_N_10, mu_k hk_c0 hk_3 rfl, hM_N_9, mu_k hk_c0 hk_2 rfl]) rfl ?_
  refine kx_aload_n 35 F 0 dX0_append_34 rfl rfl rfl ?_
  refine kx_geti 38 F fl_X0_46 hk_c0 rfl rfl (j := 4) rfl dX0_append_35 (v := (M c0 4)) (by rw [hM_N_10, mu_k hk_c0 hk_3 rfl, hM_N_9, mu_k hk_c0 hk_2 rfl]) rfl ?_
  refine kx_iload_n 39 F 3 dX0_append_38 rfl rfl rfl ?_
  refine kx_iast 40 F hk_4 rfl rfl (by omega) (by decide) dX0_append_39 rfl ?_
  intro N_11 hM_N_11
  have hI_N_11 : Inv false N_11 := Inv.u hI_N_10 hM_N_11 hk_4 (a := 0) (b := 2) rfl rfl rfl (by omega)
  have hF_N_11 : Fr f_e_X0_append M N_11 := Fr.u hF_N_10 hM_N_11 hk_4 rfl
  have hE_N_11 : Cf (SA M c0) M N_11 := Cf.st hE_N_10 hM_N_11 (sa_8 M c0)
  refine kx_aload_n 41 F 0 dX0_append_40 rfl rfl rfl ?_
  refine kx_getr 44 F fl_X0_21 hk_c0 rfl rfl (j := 9) rfl dX0_append_41 (v := (M c0 9)) (by rw [hM_N_11, mu_k hk_c0 hk_4 rfl, hM_N_10, mu_k hk_c0 hk_3 rfl, hM_N_9, mu_k hk_c0 hk_2 rfl]) rfl ?_
  refine kx_aload_n 45 F 0 dX0_append_44 rfl rfl rfl ?_
  refine kx_geti 48 F fl_X0_46 hk_c0 rfl rfl (j := 4) rfl dX0_append_45 (v := (M c0 4)) (by rw [hM_N_11, mu_k hk_c0 hk_4 rfl, hM_N_10, mu_k hk_c0 hk_3 rfl, hM_N_9, mu_k hk_c0 hk_2 rfl]) rfl ?_
  refine kx_iload 50 F 4 dX0_append_48 rfl rfl ?_
  refine kx_iast 51 F hk_5 rfl rfl (by omega) (by decide) dX0_append_50 rfl ?_
  intro N_12 hM_N_12
  have hI_N_12 : Inv false N_12 := Inv.u hI_N_11 hM_N_12 hk_5 (a := (-1)) (b := 2) rfl rfl rfl (by omega)
  have hF_N_12 : Fr f_e_X0_append M N_12 := Fr.u hF_N_11 hM_N_12 hk_5 rfl
  have hE_N_12 : Cf (SA M c0) M N_12 := Cf.st hE_N_11 hM_N_12 (sa_9 M c0)
  refine kx_aload_n 52 F 0 dX0_append_51 rfl rfl rfl ?_
  refine kx_dup 53 F dX0_append_52 rfl rfl ?_
  refine kx_geti 56 F fl_X0_46 hk_c0 rfl rfl (j := 4) rfl dX0_append_53 (v := (M c0 4)) (by rw [hM_N_12, mu_k hk_c0 hk_5 rfl, hM_N_11, mu_k hk_c0 hk_4 rfl, hM_N_10, mu_k hk_c0 hk_3 rfl, hM_N_9, mu_k hk_c0 hk_2 rfl]) rfl ?_
  refine kx_iconst 57 F dX0_append_56 rfl ?_
  refine kx_iadd 58 F (v := (M c0 4) + 1) dX0_append_57 rfl rfl ?_
  refine kx_puti 61 F fw_X0_46 rfl hk_c0 rfl rfl (j := 4) rfl dX0_append_58 rfl ?_
  intro N_13 hM_N_13
  have hI_N_13 : Inv false N_13 := Inv.u hI_N_12 hM_N_13 hk_c0 (a := 0) (b := 20) rfl rfl rfl (by omega)
  have hF_N_13 : Fr f_e_X0_append M N_13 := Fr.u hF_N_12 hM_N_13 hk_c0 rfl
  have hE_N_13 : Cf (SA M c0) M N_13 := Cf.st hE_N_12 hM_N_13 (sa_0 M c0)
  refine kx_aload_n 62 F 0 dX0_append_61 rfl rfl rfl ?_
  refine kx_aload_n 63 F 0 dX0_append_62 rfl rfl rfl ?_
  refine kx_geti 66 F fl_X0_46 hk_c0 rfl rfl (j := 4) rfl dX0_append_63 (v := (M c0 4) + 1) (by rw [hM_N_13, mu_s]) rfl ?_
  refine kx_iconst 67 F dX0_append_66 rfl ?_
  refine kx_isub 68 F (v := (M c0 4)) dX0_append_67 (by omega) rfl ?_
  refine kx_Vv 71 (ci := 0) F (As := [vI (M c0 4)]) (st := []) vd_X0_68 (e_X0_note G l N_13 c0 (M c0 4) hI_N_13 hk_c0 (by omega)) hk_c0 rfl rfl rfl ⟨by decide, by decide⟩ rfl rfl (Nat.le_of_ble_eq_true rfl) dX0_append_68 rfl ?_
  intro N_14 q_15
  obtain ⟨hI_N_14, hG_N_14, hC_N_14, hno_N_14⟩ := q_15
  have hF_N_14 : Fr f_e_X0_append M N_14 := Fr.c hF_N_13 hG_N_14 rfl
  have hE_N_14 : Cf (SA M c0) M N_14 := Cf.c hE_N_13 hC_N_14 (fun _ hx => SA.fr hx hk_c0 hF_N_13 rfl)
  have e_16 : (N_14 c0 0) = (M c0 0) := by rw [Fr.e hG_N_14 hk_c0 _ rfl, hM_N_13, mu_i (by omega), hM_N_12, mu_k hk_c0 hk_5 rfl, hM_N_11, mu_k hk_c0 hk_4 rfl, hM_N_10, mu_k hk_c0 hk_3 rfl, hM_N_9, mu_k hk_c0 hk_2 rfl]
  have h_17 := Inv.g hI_M hk_c0 rfl 0 (a := 0) (b := 3) rfl rfl
  have e_18 : (N_14 c0 1) = (M c0 1) := by rw [Fr.e hG_N_14 hk_c0 _ rfl, hM_N_13, mu_i (by omega), hM_N_12, mu_k hk_c0 hk_5 rfl, hM_N_11, mu_k hk_c0 hk_4 rfl, hM_N_10, mu_k hk_c0 hk_3 rfl, hM_N_9, mu_k hk_c0 hk_2 rfl]
  have h_19 := Inv.g hI_M hk_c0 rfl 1 (a := 0) (b := 3) rfl rfl
  have e_20 : (N_14 c0 2) = (M c0 2) := by rw [Fr.e hG_N_14 hk_c0 _ rfl, hM_N_13, mu_i (by omega), hM_N_12, mu_k hk_c0 hk_5 rfl, hM_N_11, mu_k hk_c0 hk_4 rfl, hM_N_10, mu_k hk_c0 hk_3 rfl, hM_N_9, mu_k hk_c0 hk_2 rfl]
  have h_21 := Inv.g hI_M hk_c0 rfl 2 (a := 0) (b := 7) rfl rfl
  have e_22 : (N_14 c0 3) = (M c0 3) := by rw [Fr.e hG_N_14 hk_c0 _ rfl, hM_N_13, mu_i (by omega), hM_N_12, mu_k hk_c0 hk_5 rfl, hM_N_11, mu_k hk_c0 hk_4 rfl, hM_N_10, mu_k hk_c0 hk_3 rfl, hM_N_9, mu_k hk_c0 hk_2 rfl]
  have h_23 := Inv.g hI_M hk_c0 rfl 3 (a := 0) (b := 7) rfl rfl
  have e_24 : (N_14 c0 4) = (M c0 4) + 1 := by rw [Fr.e hG_N_14 hk_c0 _ rfl, hM_N_13, mu_s]
  have e_25 : (N_14 c0 5) = (M c0 5) := by rw [Fr.e hG_N_14 hk_c0 _ rfl, hM_N_13, mu_i (by omega), hM_N_12, mu_k hk_c0 hk_5 rfl, hM_N_11, mu_k hk_c0 hk_4 rfl, hM_N_10, mu_k hk_c0 hk_3 rfl, hM_N_9, mu_k hk_c0 hk_2 rfl]
  have h_26 := Inv.g hI_M hk_c0 rfl 5 (a := 0) (b := 2) rfl rfl
  exact kx_vret F hQ ⟨hI_N_14, hF_N_14, hE_N_14, (AT.app hA hb (by omega) (by omega) (by omega) (by omega) (by omega) (by omega) (by omega) (by rw [Fr.e hG_N_14 hk_c0 _ rfl, hM_N_13, mu_i (by omega), hM_N_12, mu_k hk_c0 hk_5 rfl, hM_N_11, mu_k hk_c0 hk_4 rfl, hM_N_10, mu_k hk_c0 hk_3 rfl, hM_N_9, mu_k hk_c0 hk_2 rfl]) (by rw [Fr.e hG_N_14 hk_c0 _ rfl, hM_N_13, mu_i (by omega), hM_N_12, mu_k hk_c0 hk_5 rfl, hM_N_11, mu_k hk_c0 hk_4 rfl, hM_N_10, mu_k hk_c0 hk_3 rfl, hM_N_9, mu_k hk_c0 hk_2 rfl]) (by rw [Fr.e hG_N_14 hk_c0 _ rfl, hM_N_13, mu_i (by omega), hM_N_12, mu_k hk_c0 hk_5 rfl, hM_N_11, mu_k hk_c0 hk_4 rfl, hM_N_10, mu_k hk_c0 hk_3 rfl, hM_N_9, mu_k hk_c0 hk_2 rfl]) (by rw [Fr.e hG_N_14 hk_c0 _ rfl, hM_N_13, mu_i (by omega), hM_N_12, mu_k hk_c0 hk_5 rfl, hM_N_11, mu_k hk_c0 hk_4 rfl, hM_N_10, mu_k hk_c0 hk_3 rfl, hM_N_9, mu_k hk_c0 hk_2 rfl]) (UP.fr (UP.ot (UP.ot (UP.ot (UP.ot (UP.st hM_N_9) hM_N_10 hk_2 hk_3 rfl) hM_N_11 hk_2 hk_4 rfl) hM_N_12 hk_2 hk_5 rfl) hM_N_13 hk_2 hk_c0 rfl) hG_N_14 hk_2 rfl) (UP.fr (UP.ot (UP.ot (UP.ot (UP.of (fun j => by rw [hM_N_9, mu_k hk_3 hk_2 rfl]) hM_N_10) hM_N_11 hk_3 hk_4 rfl) hM_N_12 hk_3 hk_5 rfl) hM_N_13 hk_3 hk_c0 rfl) hG_N_14 hk_3 rfl) (UP.fr (UP.ot (UP.ot (UP.of (fun j => by rw [hM_N_10, mu_k hk_4 hk_3 rfl, hM_N_9, mu_k hk_4 hk_2 rfl]) hM_N_11) hM_N_12 hk_4 hk_5 rfl) hM_N_13 hk_4 hk_c0 rfl) hG_N_14 hk_4 rfl) (UP.fr (UP.ot (UP.of (fun j => by rw [hM_N_11, mu_k hk_5 hk_4 rfl, hM_N_10, mu_k hk_5 hk_3 rfl, hM_N_9, mu_k hk_5 hk_2 rfl]) hM_N_12) hM_N_13 hk_5 hk_c0 rfl) hG_N_14 hk_5 rfl) (zAW.note (zAW.cg hA.2 (by rw [hM_N_13, mu_i (by omega), hM_N_12, mu_k hk_c0 hk_5 rfl, hM_N_11, mu_k hk_c0 hk_4 rfl, hM_N_10, mu_k hk_c0 hk_3 rfl, hM_N_9, mu_k hk_c0 hk_2 rfl]) (by rw [hM_N_13, mu_i (by omega), hM_N_12, mu_k hk_c0 hk_5 rfl, hM_N_11, mu_k hk_c0 hk_4 rfl, hM_N_10, mu_k hk_c0 hk_3 rfl, hM_N_9, mu_k hk_c0 hk_2 rfl]) (by rw [hM_N_13, mu_i (by omega), hM_N_12, mu_k hk_c0 hk_5 rfl, hM_N_11, mu_k hk_c0 hk_4 rfl, hM_N_10, mu_k hk_c0 hk_3 rfl, hM_N_9, mu_k hk_c0 hk_2 rfl]) (by rw [hM_N_13, mu_i (by omega), hM_N_12, mu_k hk_c0 hk_5 rfl, hM_N_11, mu_k hk_c0 hk_4 rfl, hM_N_10, mu_k hk_c0 hk_3 rfl, hM_N_9, mu_k hk_c0 hk_2 rfl]) (by rw [hM_N_13, mu_i (by omega), hM_N_12, mu_k hk_c0 hk_5 rfl, hM_N_11, mu_k hk_c0 hk_4 rfl, hM_N_10, mu_k hk_c0 hk_3 rfl, hM_N_9, mu_k hk_c0 hk_2 rfl]) (by rw [hM_N_13, mu_i (by omega), hM_N_12, mu_k hk_c0 hk_5 rfl, hM_N_11, mu_k hk_c0 hk_4 rfl, hM_N_10, mu_k hk_c0 hk_3 rfl, hM_N_9, mu_k hk_c0 hk_2 rfl]) (by rw [hM_N_13, mu_i (by omega), hM_N_12, mu_k hk_c0 hk_5 rfl, hM_N_11, mu_k hk_c0 hk_4 rfl, hM_N_10, mu_k hk_c0 hk_3 rfl, hM_N_9, mu_k hk_c0 hk_2 rfl]) (fun j h0 h1 => ⟨by rw [hM_N_13, mu_k hk_2 hk_c0 rfl, hM_N_12, mu_k hk_2 hk_5 rfl, hM_N_11, mu_k hk_2 hk_4 rfl, hM_N_10, mu_k hk_2 hk_3 rfl, hM_N_9, mu_i (by omega)], by rw [hM_N_13, mu_k hk_3 hk_c0 rfl, hM_N_12, mu_k hk_3 hk_5 rfl, hM_N_11, mu_k hk_3 hk_4 rfl, hM_N_10, mu_i (by omega), hM_N_9, mu_k hk_3 hk_2 rfl], by rw [hM_N_13, mu_k hk_4 hk_c0 rfl, hM_N_12, mu_k hk_4 hk_5 rfl, hM_N_11, mu_i (by omega), hM_N_10, mu_k hk_4 hk_3 rfl, hM_N_9, mu_k hk_4 hk_2 rfl], by rw [hM_N_13, mu_k hk_5 hk_c0 rfl, hM_N_12, mu_i (by omega), hM_N_11, mu_k hk_5 hk_4 rfl, hM_N_10, mu_k hk_5 hk_3 rfl, hM_N_9, mu_k hk_5 hk_2 rfl]⟩) (fun j => by rw [hM_N_13, mu_k hk_6 hk_c0 rfl, hM_N_12, mu_k hk_6 hk_5 rfl, hM_N_11, mu_k hk_6 hk_4 rfl, hM_N_10, mu_k hk_6 hk_3 rfl, hM_N_9, mu_k hk_6 hk_2 rfl]) (fun j => by rw [hM_N_13, mu_k hk_7 hk_c0 rfl, hM_N_12, mu_k hk_7 hk_5 rfl, hM_N_11, mu_k hk_7 hk_4 rfl, hM_N_10, mu_k hk_7 hk_3 rfl, hM_N_9, mu_k hk_7 hk_2 rfl])) hno_N_14 (by omega) (by omega) (Fr.e hG_N_14 hk_c0 _ rfl) (Fr.e hG_N_14 hk_c0 _ rfl) (Fr.e hG_N_14 hk_c0 _ rfl) (Fr.e hG_N_14 hk_c0 _ rfl) (Fr.e hG_N_14 hk_c0 _ rfl) (Fr.e hG_N_14 hk_c0 _ rfl) (Fr.e hG_N_14 hk_c0 _ rfl) (Fr.fn hG_N_14 (Inv.r hI_N_13 hk_c0 rfl 6 rfl rfl) rfl) (Fr.fn hG_N_14 (Inv.r hI_N_13 hk_c0 rfl 7 rfl rfl) rfl) (Fr.fn hG_N_14 (Inv.r hI_N_13 hk_c0 rfl 8 rfl rfl) rfl) (Fr.fn hG_N_14 (Inv.r hI_N_13 hk_c0 rfl 9 rfl rfl) rfl)))⟩ dX0_append_71
