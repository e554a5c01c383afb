/-! what a store leaves of one array -/
def UP (M N : Mem) (c a v : Int) : Prop := ∀ j, N c j = if j = a then v else M c j
theorem UP.st {M N : Mem} {c a v : Int} (h : N = mu M c a v) : UP M N c a v := fun j => by rw [h, mu_at]
theorem UP.ot {M N N' : Mem} {c a v d i w : Int} {k k' : Nat} (h : UP M N c a v) (hN : N' = mu N d i w) (hc : kd c = k) (hd : kd d = k') (hn : (k == k') = false) : UP M N' c a v := fun j => by rw [hN, mu_k hc hd hn]; exact h j
theorem UP.af {M N N' : Mem} {c a v d i w : Int} {k k' : Nat} (hN : N = mu M d i w) (hN' : N' = mu N c a v) (hc : kd c = k) (hd : kd d = k') (hn : (k == k') = false) : UP M N' c a v := fun j => by
  rw [hN', mu_at, hN, mu_k hc hd hn]
theorem fin_nk {L : List (Nat × Int)} {k : Nat} (h : L.all (fun p => !(p.1 == k)) = true) (j : Int) : fin L k j = false := by
  cases hx : fin L k j with
  | false => rfl
  | true =>
    unfold fin at hx
    obtain ⟨p, hp, h1⟩ := List.any_eq_true.mp hx
    have h2 := List.all_eq_true.mp h p hp
    simp only [Bool.and_eq_true] at h1
    rw [h1.1] at h2
    cases h2
theorem Fr.fn {L : List (Nat × Int)} {M N : Mem} (h : Fr L M N) {c : Int} {k : Nat} (hc : kd c = k) (hL : L.all (fun p => !(p.1 == k)) = true) : N c = M c := funext (fun j => h.e hc j (fin_nk hL j))
theorem UP.fr {L : List (Nat × Int)} {M N N' : Mem} {c a v : Int} {k : Nat} (h : UP M N c a v) (hF : Fr L N N') (hc : kd c = k) (hL : L.all (fun p => !(p.1 == k)) = true) : UP M N' c a v := fun j => by rw [hF.fn hc hL]; exact h j
abbrev WP (N M : Mem) (c a v : Int) : Prop := UP M N c a v
abbrev WS (N M : Mem) (c a v : Int) : Prop := UP M N c a v
def UQ2 (M N : Mem) (P S a s m r : Int) : Prop := (r = 1 ∧ UP M N P a m ∧ UP M N S a s) ∨ (r = 0 ∧ N P = M P ∧ N S = M S)
/-! what a pouring asks for -/
def PK (a1 a2 a3 a4 a5 p1 p3 s1 s3 : Int) : Prop := 0 ≤ a1 ∧ a1 ≤ 3 ∧ 0 ≤ a3 ∧ a3 ≤ 3 ∧ 0 ≤ a2 ∧ 0 ≤ a4 ∧ 0 ≤ a5 ∧ 0 ≤ p1 ∧ 0 ≤ p3 ∧ p1 ≤ 60 ∧ p3 ≤ 60 ∧ s1 = s3 ∧ a2 + a5 ≤ p1 ∧ a4 + a5 ≤ p3
def PRr (r a1 a2 a3 a4 a5 p1 p3 s1 s3 : Int) : Prop := (r = 0 ∧ PK a1 a2 a3 a4 a5 p1 p3 s1 s3) ∨ (r ≠ 0 ∧ ¬ PK a1 a2 a3 a4 a5 p1 p3 s1 s3)
def PPr (r a1 a2 a3 a4 a5 p1 p3 s1 s3 : Int) : Prop := (r = 1 ∧ PK a1 a2 a3 a4 a5 p1 p3 s1 s3) ∨ (r = 0 ∧ ¬ PK a1 a2 a3 a4 a5 p1 p3 s1 s3)
theorem PRr.k {r a1 a2 a3 a4 a5 p1 p3 s1 s3 : Int} (h : PRr r a1 a2 a3 a4 a5 p1 p3 s1 s3) (hr : r = 0) : 0 ≤ a1 ∧ a1 ≤ 3 ∧ 0 ≤ a3 ∧ a3 ≤ 3 ∧ 0 ≤ a2 ∧ 0 ≤ a4 ∧ 0 ≤ a5 ∧ 0 ≤ p1 ∧ 0 ≤ p3 ∧ p1 ≤ 60 ∧ p3 ≤ 60 ∧ s1 = s3 ∧ a2 + a5 ≤ p1 ∧ a4 + a5 ≤ p3 := by
  rcases h with h | h
  · exact h.2
  · exact absurd hr h.1
theorem PRr.y {r a1 a2 a3 a4 a5 p1 p3 s1 s3 : Int} (h : PRr r a1 a2 a3 a4 a5 p1 p3 s1 s3) (hr : r = 0) : PPr 1 a1 a2 a3 a4 a5 p1 p3 s1 s3 := Or.inl ⟨rfl, h.k hr⟩
theorem PRr.n {r a1 a2 a3 a4 a5 p1 p3 s1 s3 : Int} (h : PRr r a1 a2 a3 a4 a5 p1 p3 s1 s3) (hr : r ≠ 0) : PPr 0 a1 a2 a3 a4 a5 p1 p3 s1 s3 := by
  rcases h with h | h
  · exact absurd h.1 hr
  · exact Or.inr ⟨rfl, h.2⟩
theorem PPr.u {r r' a1 a2 a3 a4 a5 p1 p3 s1 s3 : Int} (h : PPr r a1 a2 a3 a4 a5 p1 p3 s1 s3) (h' : PPr r' a1 a2 a3 a4 a5 p1 p3 s1 s3) : r = r' := by
  rcases h with h | h <;> rcases h' with h' | h'
  · rw [h.1, h'.1]
  · exact absurd h.2 h'.2
  · exact absurd h'.2 h.2
  · rw [h.1, h'.1]
theorem UP.eq {M N M' N' : Mem} {c d a v : Int} (h : UP M M' c a v) (h' : UP N N' d a v) (e : M c = N d) : M' c = N' d := funext (fun j => by rw [h j, h' j, e])
set_option maxHeartbeats 4000000 in
set_option maxRecDepth 100000 in
theorem e_X11_within (G : KG) (l : Launch) (M : Mem) (a0 : Int) (a1 : Int) (a2 : Int) (hI_M : Inv false M) (hpre : -2147483648 ≤ a0 ∧ a0 ≤ 2147483647 ∧ -2147483648 ≤ a1 ∧ a1 ≤ 2147483647 ∧ -2147483648 ≤ a2 ∧ a2 ≤ 2147483647) : KC false G l yX11_within cX11_within 3 (some .boolean) (0, 0) [vI a0, vI a1, vI a2] M (fun A => kQi false G A (fun (r : Int) (N : Mem) => M = N ∧ ((r = 1 ∧ a1 ≤ a0 ∧ a0 ≤ a2) ∨ (r = 0 ∧ a0 < a1) ∨ (r = 0 ∧ a0 > a2)))) := by
  refine kx_met (lo := [some (vI a0), some (vI a1), some (vI a2)]) (by decide) (Nat.le_of_ble_eq_true rfl) rfl ?_
  intro X F hQ
  refine kx_iload_n 1 F 0 dX11_within_0 rfl rfl rfl ?_
  refine kx_iload_n 2 F 1 dX11_within_1 rfl rfl rfl ?_
  refine kx_icmp_lt 5 F 14 dX11_within_2 (by decide) rfl (by omega) (by omega) (fun h_1 => ?_) (fun h_1 => ?_)
  · refine kx_iconst 15 F dX11_within_14 rfl ?_
    exact kx_zret F hQ (by omega) ⟨rfl, (Or.inr (Or.inl (by omega)))⟩ dX11_within_15
  · refine kx_iload_n 6 F 0 dX11_within_5 rfl rfl rfl ?_
    refine kx_iload_n 7 F 2 dX11_within_6 rfl rfl rfl ?_
    refine kx_icmp_gt 10 F 14 dX11_within_7 (by decide) rfl (by omega) (by omega) (fun h_2 => ?_) (fun h_2 => ?_)
    · refine kx_iconst 15 F dX11_within_14 rfl ?_
      exact kx_zret F hQ (by omega) ⟨rfl, (Or.inr (Or.inr (by omega)))⟩ dX11_within_15
    · refine kx_iconst 11 F dX11_within_10 rfl ?_
      refine kx_goto 15 F dX11_within_11 (by decide) ?_
      exact kx_zret F hQ (by omega) ⟨rfl, (Or.inl (by omega))⟩ dX11_within_15
set_option maxHeartbeats 4000000 in
set_option maxRecDepth 100000 in
theorem e_X9_has (G : KG) (l : Launch) (M : Mem) (c0 : Int) (a1 : Int) (hI_M : Inv false M) (hk_c0 : kd c0 = 13) (hpre : -2147483648 ≤ a1 ∧ a1 ≤ 2147483647) : KC false G l yX9_has cX9_has 2 (some .boolean) (1, 22) [vR G c0, vI a1] M (fun A => kQi false G A (fun (r : Int) (N : Mem) => M = N ∧ ((r = 1 ∧ 0 ≤ a1 ∧ a1 ≤ 3) ∨ (r = 0 ∧ a1 < 0) ∨ (r = 0 ∧ a1 > 3)))) := by
  refine kx_met (lo := [some (vR G c0), some (vI a1)]) (by decide) (Nat.le_of_ble_eq_true rfl) rfl ?_
  intro X F hQ
  refine kx_iload_n 1 F 1 dX9_has_0 rfl rfl rfl ?_
  refine kx_iconst 2 F dX9_has_1 rfl ?_
  refine kx_iconst 3 F dX9_has_2 rfl ?_
  refine kx_SNi 6 F (As := [vI a1, vI 0, vI 3]) (st := []) sn_X9_22 (e_X11_within G l M a1 0 3 hI_M (by omega)) ⟨by decide, by decide⟩ rfl rfl (Nat.le_of_ble_eq_true rfl) dX9_has_3 rfl ?_
  intro r_1 N_2 q_3
  obtain ⟨rfl, q_3c⟩ := q_3
  rcases q_3c with q_3c | q_3c | q_3c
  · exact kx_zret F hQ (by omega) ⟨rfl, (Or.inl (by omega))⟩ dX9_has_6
  · exact kx_zret F hQ (by omega) ⟨rfl, (Or.inr (Or.inl (by omega)))⟩ dX9_has_6
  · exact kx_zret F hQ (by omega) ⟨rfl, (Or.inr (Or.inr (by omega)))⟩ dX9_has_6
set_option maxHeartbeats 4000000 in
set_option maxRecDepth 100000 in
theorem e_X9_isMissing (G : KG) (l : Launch) (M : Mem) (c0 : Int) (a1 : Int) (hI_M : Inv false M) (hk_c0 : kd c0 = 13) (hpre : -2147483648 ≤ a1 ∧ a1 ≤ 2147483647 ∧ 0 ≤ a1 ∧ a1 ≤ 3) : KC false G l yX9_isMissing cX9_isMissing 2 (some .boolean) (0, 0) [vR G c0, vI a1] M (fun A => kQi false G A (fun (r : Int) (N : Mem) => M = N ∧ ((r = 1 ∧ (M (M c0 2) a1) = -1) ∨ (r = 0 ∧ (M (M c0 2) a1) ≠ -1)))) := by
  refine kx_met (lo := [some (vR G c0), some (vI a1)]) (by decide) (Nat.le_of_ble_eq_true rfl) rfl ?_
  intro X F hQ
  refine kx_aload_n 1 F 0 dX9_isMissing_0 rfl rfl rfl ?_
  refine kx_getr 4 F fl_X9_19 hk_c0 rfl rfl (j := 2) rfl dX9_isMissing_1 (v := (M c0 2)) rfl rfl ?_
  have hk_1 : kd (M c0 2) = 16 := Inv.r hI_M hk_c0 rfl 2 rfl rfl
  refine kx_iload_n 5 F 1 dX9_isMissing_4 rfl rfl rfl ?_
  refine kx_iald 6 F hk_1 rfl rfl (by omega) (by decide) dX9_isMissing_5 (v := (M (M c0 2) a1)) rfl rfl ?_
  have h_2 := Inv.g hI_M hk_1 rfl a1 (a := (-1)) (b := 60) rfl rfl
  refine kx_iconst 7 F dX9_isMissing_6 rfl ?_
  refine kx_icmp_ne 10 F 14 dX9_isMissing_7 (by decide) rfl (by omega) (by decide) (fun h_3 => ?_) (fun h_3 => ?_)
  · refine kx_iconst 15 F dX9_isMissing_14 rfl ?_
    exact kx_zret F hQ (by omega) ⟨rfl, (by omega)⟩ dX9_isMissing_15
  · refine kx_iconst 11 F dX9_isMissing_10 rfl ?_
    refine kx_goto 15 F dX9_isMissing_11 (by decide) ?_
    exact kx_zret F hQ (by omega) ⟨rfl, (by omega)⟩ dX9_isMissing_15
set_option maxHeartbeats 4000000 in
set_option maxRecDepth 100000 in
theorem e_X9_refusal (G : KG) (l : Launch) (M : Mem) (c0 : Int) (a1 : Int) (a2 : Int) (hI_M : Inv false M) (hk_c0 : kd c0 = 13) (hpre : -2147483648 ≤ a1 ∧ a1 ≤ 2147483647 ∧ -2147483648 ≤ a2 ∧ a2 ≤ 2147483647) : KC false G l yX9_refusal cX9_refusal 3 (some .int) (2, 43) [vR G c0, vI a1, vI a2] M (fun A => kQi false G A (fun (r : Int) (N : Mem) => M = N ∧ ((r = 0 ∧ 0 ≤ a1 ∧ a1 ≤ 3 ∧ 0 ≤ a2 ∧ a2 < (M (M c0 2) a1) ∧ a2 ≤ 59) ∨ (r ≥ 1 ∧ r ≤ 3 ∧ a1 < 0) ∨ (r ≥ 1 ∧ r ≤ 3 ∧ a1 > 3) ∨ (r ≥ 1 ∧ r ≤ 3 ∧ 0 ≤ a1 ∧ a1 ≤ 3 ∧ (M (M c0 2) a1) = -1) ∨ (r ≥ 1 ∧ r ≤ 3 ∧ 0 ≤ a1 ∧ a1 ≤ 3 ∧ a2 < 0) ∨ (r ≥ 1 ∧ r ≤ 3 ∧ 0 ≤ a1 ∧ a1 ≤ 3 ∧ a2 ≥ (M (M c0 2) a1))))) := by
  refine kx_met (lo := [some (vR G c0), some (vI a1), some (vI a2)]) (by decide) (Nat.le_of_ble_eq_true rfl) rfl ?_
  intro X F hQ
  refine kx_aload_n 1 F 0 dX9_refusal_0 rfl rfl rfl ?_
  refine kx_iload_n 2 F 1 dX9_refusal_1 rfl rfl rfl ?_
  refine kx_Vi 5 (ci := 0) F (As := [vI a1]) (st := []) vd_X9_26 (e_X9_has G l M c0 a1 hI_M hk_c0 (by omega)) hk_c0 rfl rfl rfl ⟨by decide, by decide⟩ rfl rfl (Nat.le_of_ble_eq_true rfl) dX9_refusal_2 rfl ?_
  intro r_1 N_2 q_3
  obtain ⟨rfl, q_3c⟩ := q_3
  rcases q_3c with q_3c | q_3c | q_3c
  · refine kx_if_ne 8 F 10 dX9_refusal_5 (by decide) rfl (by omega) (fun h_4 => ?_) (fun h_4 => (by exfalso; omega))
    refine kx_aload_n 11 F 0 dX9_refusal_10 rfl rfl rfl ?_
    refine kx_iload_n 12 F 1 dX9_refusal_11 rfl rfl rfl ?_
    refine kx_Vi 15 (ci := 0) F (As := [vI a1]) (st := []) vd_X9_30 (e_X9_isMissing G l M c0 a1 hI_M hk_c0 (by omega)) hk_c0 rfl rfl rfl ⟨by decide, by decide⟩ rfl rfl (Nat.le_of_ble_eq_true rfl) dX9_refusal_12 rfl ?_
    intro r_5 N_6 q_7
    obtain ⟨rfl, q_7c⟩ := q_7
    have hk_8 : kd (M c0 2) = 16 := Inv.r hI_M hk_c0 rfl 2 rfl rfl
    have hk_9 : kd (M c0 2) = 16 := Inv.r hI_M hk_c0 rfl 2 rfl rfl
    rcases q_7c with q_7c | q_7c
    · refine kx_if_eq 18 F 20 dX9_refusal_15 (by decide) rfl (by omega) (fun h_10 => (by exfalso; omega)) (fun h_10 => ?_)
      refine kx_iconst 19 F dX9_refusal_18 rfl ?_
      exact kx_iret F hQ ⟨rfl, (Or.inr (Or.inr (Or.inr (Or.inl (by omega)))))⟩ dX9_refusal_19
    · refine kx_if_eq 18 F 20 dX9_refusal_15 (by decide) rfl (by omega) (fun h_11 => ?_) (fun h_11 => (by exfalso; omega))
      refine kx_iload_n 21 F 2 dX9_refusal_20 rfl rfl rfl ?_
      refine kx_if_lt 24 F 38 dX9_refusal_21 (by decide) rfl (by omega) (fun h_12 => ?_) (fun h_12 => ?_)
      · refine kx_iconst 39 F dX9_refusal_38 rfl ?_
        exact kx_iret F hQ ⟨rfl, (Or.inr (Or.inr (Or.inr (Or.inr (Or.inl (by omega))))))⟩ dX9_refusal_39
      · refine kx_iload_n 25 F 2 dX9_refusal_24 rfl rfl rfl ?_
        refine kx_aload_n 26 F 0 dX9_refusal_25 rfl rfl rfl ?_
        refine kx_getr 29 F fl_X9_19 hk_c0 rfl rfl (j := 2) rfl dX9_refusal_26 (v := (M c0 2)) rfl rfl ?_
        refine kx_iload_n 30 F 1 dX9_refusal_29 rfl rfl rfl ?_
        refine kx_iald 31 F hk_9 rfl rfl (by omega) (by decide) dX9_refusal_30 (v := (M (M c0 2) a1)) rfl rfl ?_
        have h_13 := Inv.g hI_M hk_9 rfl a1 (a := (-1)) (b := 60) rfl rfl
        refine kx_icmp_ge 34 F 38 dX9_refusal_31 (by decide) rfl (by omega) (by omega) (fun h_14 => ?_) (fun h_14 => ?_)
        · refine kx_iconst 39 F dX9_refusal_38 rfl ?_
          exact kx_iret F hQ ⟨rfl, (Or.inr (Or.inr (Or.inr (Or.inr (Or.inr (by omega))))))⟩ dX9_refusal_39
        · refine kx_iconst 35 F dX9_refusal_34 rfl ?_
          refine kx_goto 39 F dX9_refusal_35 (by decide) ?_
          exact kx_iret F hQ ⟨rfl, (Or.inl (by omega))⟩ dX9_refusal_39
  · refine kx_if_ne 8 F 10 dX9_refusal_5 (by decide) rfl (by omega) (fun h_15 => (by exfalso; omega)) (fun h_15 => ?_)
    refine kx_iconst 9 F dX9_refusal_8 rfl ?_
    have hk_16 : kd (M c0 2) = 16 := Inv.r hI_M hk_c0 rfl 2 rfl rfl
    exact kx_iret F hQ ⟨rfl, (Or.inr (Or.inl (by omega)))⟩ dX9_refusal_9
  · refine kx_if_ne 8 F 10 dX9_refusal_5 (by decide) rfl (by omega) (fun h_17 => (by exfalso; omega)) (fun h_17 => ?_)
    refine kx_iconst 9 F dX9_refusal_8 rfl ?_
    have hk_18 : kd (M c0 2) = 16 := Inv.r hI_M hk_c0 rfl 2 rfl rfl
    exact kx_iret F hQ ⟨rfl, (Or.inr (Or.inr (Or.inl (by omega))))⟩ dX9_refusal_9
set_option maxHeartbeats 4000000 in
set_option maxRecDepth 100000 in
theorem e_X9_pourRefusal (G : KG) (l : Launch) (M : Mem) (c0 : Int) (a1 : Int) (a2 : Int) (a3 : Int) (a4 : Int) (a5 : Int) (hI_M : Inv false M) (hk_c0 : kd c0 = 13) (hpre : -2147483648 ≤ a1 ∧ a1 ≤ 2147483647 ∧ -2147483648 ≤ a2 ∧ a2 ≤ 2147483647 ∧ -2147483648 ≤ a3 ∧ a3 ≤ 2147483647 ∧ -2147483648 ≤ a4 ∧ a4 ≤ 2147483647 ∧ -2147483648 ≤ a5 ∧ a5 ≤ 2147483647) : KC false G l yX9_pourRefusal cX9_pourRefusal 7 (some .int) (2, 43) [vR G c0, vI a1, vI a2, vI a3, vI a4, vI a5] M (fun A => kQi false G A (fun (r : Int) (N : Mem) => M = N ∧ (r ≥ 0 ∧ r ≤ 8) ∧ (PRr r a1 a2 a3 a4 a5 (M (M c0 2) a1) (M (M c0 2) a3) (M (M c0 1) a1) (M (M c0 1) a3)))) := by
  refine kx_met (lo := [some (vR G c0), some (vI a1), some (vI a2), some (vI a3), some (vI a4), some (vI a5), none]) (by decide) (Nat.le_of_ble_eq_true rfl) rfl ?_
  intro X F hQ
  refine kx_aload_n 1 F 0 dX9_pourRefusal_0 rfl rfl rfl ?_
  refine kx_iload_n 2 F 1 dX9_pourRefusal_1 rfl rfl rfl ?_
  refine kx_Vi 5 (ci := 0) F (As := [vI a1]) (st := []) vd_X9_26 (e_X9_has G l M c0 a1 hI_M hk_c0 (by omega)) hk_c0 rfl rfl rfl ⟨by decide, by decide⟩ rfl rfl (Nat.le_of_ble_eq_true rfl) dX9_pourRefusal_2 rfl ?_
  intro r_1 N_2 q_3
  obtain ⟨rfl, q_3c⟩ := q_3
  rcases q_3c with q_3c | q_3c | q_3c
  · refine kx_if_eq 8 F 30 dX9_pourRefusal_5 (by decide) rfl (by omega) (fun h_4 => (by exfalso; omega)) (fun h_4 => ?_)
    refine kx_aload_n 9 F 0 dX9_pourRefusal_8 rfl rfl rfl ?_
    refine kx_iload_n 10 F 3 dX9_pourRefusal_9 rfl rfl rfl ?_
    refine kx_Vi 13 (ci := 0) F (As := [vI a3]) (st := []) vd_X9_26 (e_X9_has G l M c0 a3 hI_M hk_c0 (by omega)) hk_c0 rfl rfl rfl ⟨by decide, by decide⟩ rfl rfl (Nat.le_of_ble_eq_true rfl) dX9_pourRefusal_10 rfl ?_
    intro r_5 N_6 q_7
    obtain ⟨rfl, q_7c⟩ := q_7
    rcases q_7c with q_7c | q_7c | q_7c
    · refine kx_if_eq 16 F 30 dX9_pourRefusal_13 (by decide) rfl (by omega) (fun h_8 => (by exfalso; omega)) (fun h_8 => ?_)
      refine kx_iload_n 17 F 2 dX9_pourRefusal_16 rfl rfl rfl ?_
      refine kx_if_lt 20 F 30 dX9_pourRefusal_17 (by decide) rfl (by omega) (fun h_9 => ?_) (fun h_9 => ?_)
      · refine kx_iconst 31 F dX9_pourRefusal_30 rfl ?_
        exact kx_iret F hQ ⟨rfl, (by omega), (Or.inr ⟨by omega, fun h => by unfold PK at h; omega⟩)⟩ dX9_pourRefusal_31
      · refine kx_iload 22 F 4 dX9_pourRefusal_20 rfl rfl ?_
        refine kx_if_lt 25 F 30 dX9_pourRefusal_22 (by decide) rfl (by omega) (fun h_10 => ?_) (fun h_10 => ?_)
        · refine kx_iconst 31 F dX9_pourRefusal_30 rfl ?_
          exact kx_iret F hQ ⟨rfl, (by omega), (Or.inr ⟨by omega, fun h => by unfold PK at h; omega⟩)⟩ dX9_pourRefusal_31
        · refine kx_iload 27 F 5 dX9_pourRefusal_25 rfl rfl ?_
          refine kx_if_ge 30 F 32 dX9_pourRefusal_27 (by decide) rfl (by omega) (fun h_11 => ?_) (fun h_11 => ?_)
          · refine kx_aload_n 33 F 0 dX9_pourRefusal_32 rfl rfl rfl ?_
            refine kx_iload_n 34 F 1 dX9_pourRefusal_33 rfl rfl rfl ?_
            refine kx_Vi 37 (ci := 0) F (As := [vI a1]) (st := []) vd_X9_30 (e_X9_isMissing G l M c0 a1 hI_M hk_c0 (by omega)) hk_c0 rfl rfl rfl ⟨by decide, by decide⟩ rfl rfl (Nat.le_of_ble_eq_true rfl) dX9_pourRefusal_34 rfl ?_
            intro r_12 N_13 q_14
            obtain ⟨rfl, q_14c⟩ := q_14
            have hk_15 : kd (M c0 2) = 16 := Inv.r hI_M hk_c0 rfl 2 rfl rfl
            have hk_16 : kd (M c0 2) = 16 := Inv.r hI_M hk_c0 rfl 2 rfl rfl
            rcases q_14c with q_14c | q_14c
            · refine kx_if_ne 40 F 48 dX9_pourRefusal_37 (by decide) rfl (by omega) (fun h_17 => ?_) (fun h_17 => (by exfalso; omega))
              refine kx_iconst 49 F dX9_pourRefusal_48 rfl ?_
              exact kx_iret F hQ ⟨rfl, (by omega), (Or.inr ⟨by omega, fun h => by unfold PK at h; omega⟩)⟩ dX9_pourRefusal_49
            · refine kx_if_ne 40 F 48 dX9_pourRefusal_37 (by decide) rfl (by omega) (fun h_18 => (by exfalso; omega)) (fun h_18 => ?_)
              refine kx_aload_n 41 F 0 dX9_pourRefusal_40 rfl rfl rfl ?_
              refine kx_iload_n 42 F 3 dX9_pourRefusal_41 rfl rfl rfl ?_
              refine kx_Vi 45 (ci := 0) F (As := [vI a3]) (st := []) vd_X9_30 (e_X9_isMissing G l M c0 a3 hI_M hk_c0 (by omega)) hk_c0 rfl rfl rfl ⟨by decide, by decide⟩ rfl rfl (Nat.le_of_ble_eq_true rfl) dX9_pourRefusal_42 rfl ?_
              intro r_19 N_20 q_21
              obtain ⟨rfl, q_21c⟩ := q_21
              rcases q_21c with q_21c | q_21c
              · refine kx_if_eq 48 F 50 dX9_pourRefusal_45 (by decide) rfl (by omega) (fun h_22 => (by exfalso; omega)) (fun h_22 => ?_)
                refine kx_iconst 49 F dX9_pourRefusal_48 rfl ?_
                exact kx_iret F hQ ⟨rfl, (by omega), (Or.inr ⟨by omega, fun h => by unfold PK at h; omega⟩)⟩ dX9_pourRefusal_49
              · refine kx_if_eq 48 F 50 dX9_pourRefusal_45 (by decide) rfl (by omega) (fun h_23 => ?_) (fun h_23 => (by exfalso; omega))
                refine kx_aload_n 51 F 0 dX9_pourRefusal_50 rfl rfl rfl ?_
                refine kx_getr 54 F fl_X9_15 hk_c0 rfl rfl (j := 1) rfl dX9_pourRefusal_51 (v := (M c0 1)) rfl rfl ?_
                have hk_24 : kd (M c0 1) = 15 := Inv.r hI_M hk_c0 rfl 1 rfl rfl
                refine kx_iload_n 55 F 1 dX9_pourRefusal_54 rfl rfl rfl ?_
                refine kx_iald 56 F hk_24 rfl rfl (by omega) (by decide) dX9_pourRefusal_55 (v := (M (M c0 1) a1)) rfl rfl ?_
                have h_25 := Inv.g hI_M hk_24 rfl a1 (a := 0) (b := 3) rfl rfl
                refine kx_aload_n 57 F 0 dX9_pourRefusal_56 rfl rfl rfl ?_
                refine kx_getr 60 F fl_X9_15 hk_c0 rfl rfl (j := 1) rfl dX9_pourRefusal_57 (v := (M c0 1)) rfl rfl ?_
                refine kx_iload_n 61 F 3 dX9_pourRefusal_60 rfl rfl rfl ?_
                refine kx_iald 62 F hk_24 rfl rfl (by omega) (by decide) dX9_pourRefusal_61 (v := (M (M c0 1) a3)) rfl rfl ?_
                have h_26 := Inv.g hI_M hk_24 rfl a3 (a := 0) (b := 3) rfl rfl
                refine kx_icmp_eq 65 F 68 dX9_pourRefusal_62 (by decide) rfl (by omega) (by omega) (fun h_27 => ?_) (fun h_27 => ?_)
                · refine kx_iload_n 69 F 2 dX9_pourRefusal_68 rfl rfl rfl ?_
                  refine kx_i2l 70 F dX9_pourRefusal_69 (by omega) rfl ?_
                  refine kx_iload 72 F 5 dX9_pourRefusal_70 rfl rfl ?_
                  refine kx_i2l 73 F dX9_pourRefusal_72 (by omega) rfl ?_
                  refine kx_ladd 74 F (v := a2 + a5) dX9_pourRefusal_73 rfl rfl ?_
                  refine kx_aload_n 75 F 0 dX9_pourRefusal_74 rfl rfl rfl ?_
                  refine kx_getr 78 F fl_X9_19 hk_c0 rfl rfl (j := 2) rfl dX9_pourRefusal_75 (v := (M c0 2)) rfl rfl ?_
                  refine kx_iload_n 79 F 1 dX9_pourRefusal_78 rfl rfl rfl ?_
                  refine kx_iald 80 F hk_16 rfl rfl (by omega) (by decide) dX9_pourRefusal_79 (v := (M (M c0 2) a1)) rfl rfl ?_
                  have h_28 := Inv.g hI_M hk_16 rfl a1 (a := (-1)) (b := 60) rfl rfl
                  refine kx_i2l 81 F dX9_pourRefusal_80 (by omega) rfl ?_
                  refine kx_lcmp 82 F dX9_pourRefusal_81 (by omega) (by omega) rfl (fun w_29 h_30 => ?_)
                  refine kx_if_gt 85 F 107 dX9_pourRefusal_82 (by decide) rfl (by omega) (fun h_31 => ?_) (fun h_31 => ?_)
                  · refine kx_iconst 108 F dX9_pourRefusal_107 rfl ?_
                    refine kx_istore 110 F 6 (lo' := [some (vR G c0), some (vI a1), some (vI a2), some (vI a3), some (vI a4), some (vI a5), some (vI 0)]) dX9_pourRefusal_108 (by decide) rfl rfl rfl ?_
                    refine kx_iload 112 F 6 dX9_pourRefusal_110 rfl rfl ?_
                    refine kx_if_eq 115 F 119 dX9_pourRefusal_112 (by decide) rfl (by decide) (fun h_32 => ?_) (fun h_32 => ?_)
                    · refine kx_iconst 120 F dX9_pourRefusal_119 rfl ?_
                      exact kx_iret F hQ ⟨rfl, (by omega), (Or.inr ⟨by omega, fun h => by unfold PK at h; omega⟩)⟩ dX9_pourRefusal_120
                    · refine kx_iconst 116 F dX9_pourRefusal_115 rfl ?_
                      refine kx_goto 120 F dX9_pourRefusal_116 (by decide) ?_
                      exact kx_iret F hQ ⟨rfl, (by omega), (Or.inl ⟨by omega, by omega, by omega, by omega, by omega, by omega, by omega, by omega, by omega, by omega, by omega, by omega, by omega, by omega, by omega⟩)⟩ dX9_pourRefusal_120
                  · refine kx_iload 87 F 4 dX9_pourRefusal_85 rfl rfl ?_
                    refine kx_i2l 88 F dX9_pourRefusal_87 (by omega) rfl ?_
                    refine kx_iload 90 F 5 dX9_pourRefusal_88 rfl rfl ?_
                    refine kx_i2l 91 F dX9_pourRefusal_90 (by omega) rfl ?_
                    refine kx_ladd 92 F (v := a4 + a5) dX9_pourRefusal_91 rfl rfl ?_
                    refine kx_aload_n 93 F 0 dX9_pourRefusal_92 rfl rfl rfl ?_
                    refine kx_getr 96 F fl_X9_19 hk_c0 rfl rfl (j := 2) rfl dX9_pourRefusal_93 (v := (M c0 2)) rfl rfl ?_
                    refine kx_iload_n 97 F 3 dX9_pourRefusal_96 rfl rfl rfl ?_
                    refine kx_iald 98 F hk_16 rfl rfl (by omega) (by decide) dX9_pourRefusal_97 (v := (M (M c0 2) a3)) rfl rfl ?_
                    have h_33 := Inv.g hI_M hk_16 rfl a3 (a := (-1)) (b := 60) rfl rfl
                    refine kx_i2l 99 F dX9_pourRefusal_98 (by omega) rfl ?_
                    refine kx_lcmp 100 F dX9_pourRefusal_99 (by omega) (by omega) rfl (fun w_34 h_35 => ?_)
                    refine kx_if_gt 103 F 107 dX9_pourRefusal_100 (by decide) rfl (by omega) (fun h_36 => ?_) (fun h_36 => ?_)
                    · refine kx_iconst 108 F dX9_pourRefusal_107 rfl ?_
                      refine kx_istore 110 F 6 (lo' := [some (vR G c0), some (vI a1), some (vI a2), some (vI a3), some (vI a4), some (vI a5), some (vI 0)]) dX9_pourRefusal_108 (by decide) rfl rfl rfl ?_
                      refine kx_iload 112 F 6 dX9_pourRefusal_110 rfl rfl ?_
                      refine kx_if_eq 115 F 119 dX9_pourRefusal_112 (by decide) rfl (by decide) (fun h_37 => ?_) (fun h_37 => ?_)
                      · refine kx_iconst 120 F dX9_pourRefusal_119 rfl ?_
                        exact kx_iret F hQ ⟨rfl, (by omega), (Or.inr ⟨by omega, fun h => by unfold PK at h; omega⟩)⟩ dX9_pourRefusal_120
                      · refine kx_iconst 116 F dX9_pourRefusal_115 rfl ?_
                        refine kx_goto 120 F dX9_pourRefusal_116 (by decide) ?_
                        exact kx_iret F hQ ⟨rfl, (by omega), (Or.inl ⟨by omega, by omega, by omega, by omega, by omega, by omega, by omega, by omega, by omega, by omega, by omega, by omega, by omega, by omega, by omega⟩)⟩ dX9_pourRefusal_120
                    · refine kx_iconst 104 F dX9_pourRefusal_103 rfl ?_
                      refine kx_goto 108 F dX9_pourRefusal_104 (by decide) ?_
                      refine kx_istore 110 F 6 (lo' := [some (vR G c0), some (vI a1), some (vI a2), some (vI a3), some (vI a4), some (vI a5), some (vI 1)]) dX9_pourRefusal_108 (by decide) rfl rfl rfl ?_
                      refine kx_iload 112 F 6 dX9_pourRefusal_110 rfl rfl ?_
                      refine kx_if_eq 115 F 119 dX9_pourRefusal_112 (by decide) rfl (by decide) (fun h_38 => (by exfalso; omega)) (fun h_38 => ?_)
                      refine kx_iconst 116 F dX9_pourRefusal_115 rfl ?_
                      refine kx_goto 120 F dX9_pourRefusal_116 (by decide) ?_
                      exact kx_iret F hQ ⟨rfl, (by omega), (Or.inl ⟨by omega, by omega, by omega, by omega, by omega, by omega, by omega, by omega, by omega, by omega, by omega, by omega, by omega, by omega, by omega⟩)⟩ dX9_pourRefusal_120
                · refine kx_bipush 67 F dX9_pourRefusal_65 (by decide) rfl ?_
                  exact kx_iret F hQ ⟨rfl, (by omega), (Or.inr ⟨by omega, fun h => by unfold PK at h; omega⟩)⟩ dX9_pourRefusal_67
          · refine kx_iconst 31 F dX9_pourRefusal_30 rfl ?_
            exact kx_iret F hQ ⟨rfl, (by omega), (Or.inr ⟨by omega, fun h => by unfold PK at h; omega⟩)⟩ dX9_pourRefusal_31
    · refine kx_if_eq 16 F 30 dX9_pourRefusal_13 (by decide) rfl (by omega) (fun h_39 => ?_) (fun h_39 => (by exfalso; omega))
      refine kx_iconst 31 F dX9_pourRefusal_30 rfl ?_
      exact kx_iret F hQ ⟨rfl, (by omega), (Or.inr ⟨by omega, fun h => by unfold PK at h; omega⟩)⟩ dX9_pourRefusal_31
    · refine kx_if_eq 16 F 30 dX9_pourRefusal_13 (by decide) rfl (by omega) (fun h_40 => ?_) (fun h_40 => (by exfalso; omega))
      refine kx_iconst 31 F dX9_pourRefusal_30 rfl ?_
      exact kx_iret F hQ ⟨rfl, (by omega), (Or.inr ⟨by omega, fun h => by unfold PK at h; omega⟩)⟩ dX9_pourRefusal_31
  · refine kx_if_eq 8 F 30 dX9_pourRefusal_5 (by decide) rfl (by omega) (fun h_41 => ?_) (fun h_41 => (by exfalso; omega))
    refine kx_iconst 31 F dX9_pourRefusal_30 rfl ?_
    exact kx_iret F hQ ⟨rfl, (by omega), (Or.inr ⟨by omega, fun h => by unfold PK at h; omega⟩)⟩ dX9_pourRefusal_31
  · refine kx_if_eq 8 F 30 dX9_pourRefusal_5 (by decide) rfl (by omega) (fun h_42 => ?_) (fun h_42 => (by exfalso; omega))
    refine kx_iconst 31 F dX9_pourRefusal_30 rfl ?_
    exact kx_iret F hQ ⟨rfl, (by omega), (Or.inr ⟨by omega, fun h => by unfold PK at h; omega⟩)⟩ dX9_pourRefusal_31
abbrev f_e_X9_make : List (Nat × Int) := [(14, -1), (15, -1), (16, -1)]
set_option maxHeartbeats 4000000 in
set_option maxRecDepth 100000 in
theorem e_X9_make (G : KG) (l : Launch) (M : Mem) (c0 : Int) (a1 : Int) (a2 : Int) (a3 : Int) (hI_M : Inv false M) (hk_c0 : kd c0 = 13) (hpre : -2147483648 ≤ a1 ∧ a1 ≤ 2147483647 ∧ -2147483648 ≤ a2 ∧ a2 ≤ 2147483647 ∧ -2147483648 ≤ a3 ∧ a3 ≤ 2147483647 ∧ 0 ≤ a1 ∧ a1 ≤ 3 ∧ 0 ≤ a2 ∧ a2 ≤ 3 ∧ 0 ≤ a3 ∧ a3 ≤ 60) : KC false G l yX9_make cX9_make 5 none (0, 0) [vR G c0, vI a1, vI a2, vI a3] M (fun A => kQv false G A (fun (N : Mem) => Inv false N ∧ Fr f_e_X9_make M N ∧ (UP M N (M c0 2) a1 a3 ∧ UP M N (M c0 1) a1 a2))) := by
  refine kx_met (lo := [some (vR G c0), some (vI a1), some (vI a2), some (vI a3), none]) (by decide) (Nat.le_of_ble_eq_true rfl) rfl ?_
  intro X F hQ
  have hF_M : Fr f_e_X9_make M M := Fr.rf _ _
  refine kx_aload_n 1 F 0 dX9_make_0 rfl rfl rfl ?_
  refine kx_getr 4 F fl_X9_15 hk_c0 rfl rfl (j := 1) rfl dX9_make_1 (v := (M c0 1)) rfl rfl ?_
  have hk_1 : kd (M c0 1) = 15 := Inv.r hI_M hk_c0 rfl 1 rfl rfl
  refine kx_iload_n 5 F 1 dX9_make_4 rfl rfl rfl ?_
  refine kx_iload_n 6 F 2 dX9_make_5 rfl rfl rfl ?_
  refine kx_iast 7 F hk_1 rfl rfl (by omega) (by decide) dX9_make_6 rfl ?_
  intro N_2 hM_N_2
  have hI_N_2 : Inv false N_2 := Inv.u hI_M hM_N_2 hk_1 (a := 0) (b := 3) rfl rfl rfl (by omega)
  have hF_N_2 : Fr f_e_X9_make M N_2 := Fr.u hF_M hM_N_2 hk_1 rfl
  refine kx_aload_n 8 F 0 dX9_make_7 rfl rfl rfl ?_
  refine kx_getr 11 F fl_X9_19 hk_c0 rfl rfl (j := 2) rfl dX9_make_8 (v := (M c0 2)) (by rw [hM_N_2, mu_k hk_c0 hk_1 rfl]) rfl ?_
  have hk_3 : kd (M c0 2) = 16 := Inv.r hI_M hk_c0 rfl 2 rfl rfl
  refine kx_iload_n 12 F 1 dX9_make_11 rfl rfl rfl ?_
  refine kx_iload_n 13 F 3 dX9_make_12 rfl rfl rfl ?_
  refine kx_iast 14 F hk_3 rfl rfl (by omega) (by decide) dX9_make_13 rfl ?_
  intro N_4 hM_N_4
  have hI_N_4 : Inv false N_4 := Inv.u hI_N_2 hM_N_4 hk_3 (a := (-1)) (b := 60) rfl rfl rfl (by omega)
  have hF_N_4 : Fr f_e_X9_make M N_4 := Fr.u hF_N_2 hM_N_4 hk_3 rfl
  refine kx_iconst 15 F dX9_make_14 rfl ?_
  refine kx_istore 17 F 4 (lo' := [some (vR G c0), some (vI a1), some (vI a2), some (vI a3), some (vI 0)]) dX9_make_15 (by decide) rfl rfl rfl ?_
  have L_42 : ∀ (n_43 : Nat) (x4_40 : Int) (N_41 : Mem), Inv false N_41 → Fr f_e_X9_make M N_41 → WP N_41 M (M c0 2) a1 a3 → WS N_41 M (M c0 1) a1 a2 → 0 ≤ x4_40 ∧ x4_40 ≤ 60 → (60 - (x4_40)).toNat = n_43 → KJ false G X N_41 17 [some (vR G c0), some (vI a1), none, some (vI a3), some (vI x4_40)] [] := by
    intro n_43
    refine Nat.strongRecOn n_43 ?_
    intro n_43 ih_44 x4_40 N_41 hI_N_41 hF_N_41 hp_47 hp_48 h_45 hm_46
    refine kx_iload 19 F 4 dX9_make_17 rfl rfl ?_
    refine kx_iload_n 20 F 3 dX9_make_19 rfl rfl rfl ?_
    refine kx_icmp_ge 23 F 42 dX9_make_20 (by decide) rfl (by omega) (by omega) (fun h_49 => ?_) (fun h_49 => ?_)
    · exact kx_vret F hQ ⟨hI_N_41, hF_N_41, ⟨hp_47, hp_48⟩⟩ dX9_make_42
    · refine kx_aload_n 24 F 0 dX9_make_23 rfl rfl rfl ?_
      refine kx_getr 27 F fl_X9_11 hk_c0 rfl rfl (j := 0) rfl dX9_make_24 (v := (M c0 0)) (by rw [Fr.e hF_N_41 hk_c0 _ rfl]) rfl ?_
      have hk_50 : kd (M c0 0) = 14 := Inv.r hI_M hk_c0 rfl 0 rfl rfl
      refine kx_iload_n 28 F 1 dX9_make_27 rfl rfl rfl ?_
      refine kx_bipush 30 F dX9_make_28 (by decide) rfl ?_
      refine kx_imul 31 F (v := 60 * a1) dX9_make_30 (by omega) rfl ?_
      refine kx_iload 33 F 4 dX9_make_31 rfl rfl ?_
      refine kx_iadd 34 F (v := 60 * a1 + x4_40) dX9_make_33 rfl rfl ?_
      refine kx_lconst 35 (z := 0) F dX9_make_34 (by decide) rfl ?_
      refine kx_last 36 F hk_50 rfl rfl (by omega) (by decide) dX9_make_35 rfl ?_
      intro N_51 hM_N_51
      have hI_N_51 : Inv false N_51 := Inv.u hI_N_41 hM_N_51 hk_50 (a := (-9223372036854775808)) (b := 9223372036854775807) rfl rfl rfl (by omega)
      have hF_N_51 : Fr f_e_X9_make M N_51 := Fr.u hF_N_41 hM_N_51 hk_50 rfl
      refine kx_iinc 39 F 4 (v := x4_40 + 1) (lo' := [some (vR G c0), some (vI a1), none, some (vI a3), some (vI (x4_40 + 1))]) dX9_make_36 rfl (by omega) (by decide) rfl rfl rfl ?_
      refine kx_goto 17 F dX9_make_39 (by decide) ?_
      exact ih_44 _ (by omega) (x4_40 + 1) N_51 hI_N_51 hF_N_51 (UP.ot hp_47 hM_N_51 hk_3 hk_50 rfl) (UP.ot hp_48 hM_N_51 hk_1 hk_50 rfl) (by omega) rfl
  refine kx_drop 2 (lo' := [some (vR G c0), some (vI a1), none, some (vI a3), some (vI 0)]) rfl ?_
  exact L_42 _ 0 N_4 hI_N_4 hF_N_4 (UP.af hM_N_2 hM_N_4 hk_3 hk_1 rfl) (UP.ot (UP.st hM_N_2) hM_N_4 hk_1 hk_3 rfl) (by omega) rfl
abbrev f_e_X11_tray : List (Nat × Int) := [(14, -1), (15, -1), (16, -1), (62, 0)]
set_option maxHeartbeats 4000000 in
set_option maxRecDepth 100000 in
theorem e_X11_tray (G : KG) (l : Launch) (M : Mem) (c0 : Int) (a1 : Int) (a2 : Int) (a3 : Int) (hI_M : Inv false M) (hk_c0 : kd c0 = 62) (hpre : -2147483648 ≤ a1 ∧ a1 ≤ 2147483647 ∧ -2147483648 ≤ a2 ∧ a2 ≤ 2147483647 ∧ -2147483648 ≤ a3 ∧ a3 ≤ 2147483647) : KC false G l yX11_tray cX11_tray 4 (some .boolean) (2, 43) [vR G c0, vI a1, vI a2, vI a3] M (fun A => kQi false G A (fun (r : Int) (N : Mem) => Inv false N ∧ Fr f_e_X11_tray M N ∧ ((r = 1 ∧ 0 ≤ a1 ∧ a1 ≤ 3 ∧ 0 ≤ a2 ∧ a2 ≤ 3 ∧ 0 ≤ a3 ∧ a3 ≤ 60) ∨ (r = 0 ∧ a1 < 0) ∨ (r = 0 ∧ a1 > 3) ∨ (r = 0 ∧ a2 < 0) ∨ (r = 0 ∧ a2 > 3) ∨ (r = 0 ∧ a3 < 0) ∨ (r = 0 ∧ a3 > 60)) ∧ (UQ2 M N (M (M c0 3) 2) (M (M c0 3) 1) a1 a2 a3 r))) := by
  refine kx_met (lo := [some (vR G c0), some (vI a1), some (vI a2), some (vI a3)]) (by decide) (Nat.le_of_ble_eq_true rfl) rfl ?_
  intro X F hQ
  have hF_M : Fr f_e_X11_tray M M := Fr.rf _ _
  have hk_Mc03 : kd (M c0 3) = 13 := Inv.r hI_M hk_c0 rfl 3 rfl rfl
  have hk_MMc032 : kd (M (M c0 3) 2) = 16 := Inv.r hI_M hk_Mc03 rfl 2 rfl rfl
  have hk_MMc031 : kd (M (M c0 3) 1) = 15 := Inv.r hI_M hk_Mc03 rfl 1 rfl rfl
  refine kx_aload_n 1 F 0 dX11_tray_0 rfl rfl rfl ?_
  refine kx_getr 4 F fl_X11_10 hk_c0 rfl rfl (j := 3) rfl dX11_tray_1 (v := (M c0 3)) rfl rfl ?_
  refine kx_iload_n 5 F 1 dX11_tray_4 rfl rfl rfl ?_
  refine kx_Vi 8 (ci := 0) F (As := [vI a1]) (st := []) vd_X11_83 (e_X9_has G l M (M c0 3) a1 hI_M hk_Mc03 (by omega)) hk_Mc03 rfl rfl rfl ⟨by decide, by decide⟩ rfl rfl (Nat.le_of_ble_eq_true rfl) dX11_tray_5 rfl ?_
  intro r_1 N_2 q_3
  obtain ⟨rfl, q_3c⟩ := q_3
  rcases q_3c with q_3c | q_3c | q_3c
  · refine kx_if_eq 11 F 30 dX11_tray_8 (by decide) rfl (by omega) (fun h_4 => (by exfalso; omega)) (fun h_4 => ?_)
    refine kx_iload_n 12 F 2 dX11_tray_11 rfl rfl rfl ?_
    refine kx_iconst 13 F dX11_tray_12 rfl ?_
    refine kx_iconst 14 F dX11_tray_13 rfl ?_
    refine kx_Si 17 F (As := [vI a2, vI 0, vI 3]) (st := []) sd_X11_87 (e_X11_within G l M a2 0 3 hI_M (by omega)) ⟨by decide, by decide⟩ rfl rfl (Nat.le_of_ble_eq_true rfl) dX11_tray_14 rfl ?_
    intro r_5 N_6 q_7
    obtain ⟨rfl, q_7c⟩ := q_7
    rcases q_7c with q_7c | q_7c | q_7c
    · refine kx_if_eq 20 F 30 dX11_tray_17 (by decide) rfl (by omega) (fun h_8 => (by exfalso; omega)) (fun h_8 => ?_)
      refine kx_iload_n 21 F 3 dX11_tray_20 rfl rfl rfl ?_
      refine kx_iconst 22 F dX11_tray_21 rfl ?_
      refine kx_bipush 24 F dX11_tray_22 (by decide) rfl ?_
      refine kx_Si 27 F (As := [vI a3, vI 0, vI 60]) (st := []) sd_X11_87 (e_X11_within G l M a3 0 60 hI_M (by omega)) ⟨by decide, by decide⟩ rfl rfl (Nat.le_of_ble_eq_true rfl) dX11_tray_24 rfl ?_
      intro r_9 N_10 q_11
      obtain ⟨rfl, q_11c⟩ := q_11
      rcases q_11c with q_11c | q_11c | q_11c
      · refine kx_if_ne 30 F 36 dX11_tray_27 (by decide) rfl (by omega) (fun h_12 => ?_) (fun h_12 => (by exfalso; omega))
        refine kx_aload_n 37 F 0 dX11_tray_36 rfl rfl rfl ?_
        refine kx_getr 40 F fl_X11_10 hk_c0 rfl rfl (j := 3) rfl dX11_tray_37 (v := (M c0 3)) rfl rfl ?_
        refine kx_iload_n 41 F 1 dX11_tray_40 rfl rfl rfl ?_
        refine kx_iload_n 42 F 2 dX11_tray_41 rfl rfl rfl ?_
        refine kx_iload_n 43 F 3 dX11_tray_42 rfl rfl rfl ?_
        refine kx_Vv 46 (ci := 0) F (As := [vI a1, vI a2, vI a3]) (st := []) vd_X11_94 (e_X9_make G l M (M c0 3) a1 a2 a3 hI_M hk_Mc03 (by omega)) hk_Mc03 rfl rfl rfl ⟨by decide, by decide⟩ rfl rfl (Nat.le_of_ble_eq_true rfl) dX11_tray_43 rfl ?_
        intro N_13 q_14
        obtain ⟨hI_N_13, hG_N_13, hu_N_13⟩ := q_14
        have hF_N_13 : Fr f_e_X11_tray M N_13 := Fr.c hF_M hG_N_13 rfl
        refine kx_aload_n 47 F 0 dX11_tray_46 rfl rfl rfl ?_
        refine kx_Vi 50 (ci := 0) F (As := []) (st := []) vd_X11_98 (c_X11_agree G l N_13 c0 hI_N_13 hk_c0) hk_c0 rfl rfl rfl ⟨by decide, by decide⟩ rfl rfl (Nat.le_of_ble_eq_true rfl) dX11_tray_47 rfl ?_
        intro r_15 N_16 q_17
        obtain ⟨hI_N_16, hG_N_16, q_17c⟩ := q_17
        have hF_N_16 : Fr f_e_X11_tray M N_16 := Fr.c hF_N_13 hG_N_16 rfl
        subst q_17c
        exact kx_zret F hQ (by omega) ⟨hI_N_16, hF_N_16, (Or.inl (by omega)), (Or.inl ⟨by omega, (UP.fr hu_N_13.1 hG_N_16 hk_MMc032 rfl), (UP.fr hu_N_13.2 hG_N_16 hk_MMc031 rfl)⟩)⟩ dX11_tray_50
      · refine kx_if_ne 30 F 36 dX11_tray_27 (by decide) rfl (by omega) (fun h_18 => (by exfalso; omega)) (fun h_18 => ?_)
        refine kx_aload_n 31 F 0 dX11_tray_30 rfl rfl rfl ?_
        refine kx_iconst 32 F dX11_tray_31 rfl ?_
        refine kx_Vi 35 (ci := 0) F (As := [vI 1]) (st := []) vd_X11_91 (c_X11_deny G l M c0 1 hI_M hk_c0 (by omega)) hk_c0 rfl rfl rfl ⟨by decide, by decide⟩ rfl rfl (Nat.le_of_ble_eq_true rfl) dX11_tray_32 rfl ?_
        intro r_19 N_20 q_21
        obtain ⟨hI_N_20, hG_N_20, q_21c⟩ := q_21
        have hF_N_20 : Fr f_e_X11_tray M N_20 := Fr.c hF_M hG_N_20 rfl
        subst q_21c
        exact kx_zret F hQ (by omega) ⟨hI_N_20, hF_N_20, (Or.inr (Or.inr (Or.inr (Or.inr (Or.inr (Or.inl (by omega))))))), (Or.inr ⟨by omega, (Fr.fn hG_N_20 hk_MMc032 rfl), (Fr.fn hG_N_20 hk_MMc031 rfl)⟩)⟩ dX11_tray_35
      · refine kx_if_ne 30 F 36 dX11_tray_27 (by decide) rfl (by omega) (fun h_22 => (by exfalso; omega)) (fun h_22 => ?_)
        refine kx_aload_n 31 F 0 dX11_tray_30 rfl rfl rfl ?_
        refine kx_iconst 32 F dX11_tray_31 rfl ?_
        refine kx_Vi 35 (ci := 0) F (As := [vI 1]) (st := []) vd_X11_91 (c_X11_deny G l M c0 1 hI_M hk_c0 (by omega)) hk_c0 rfl rfl rfl ⟨by decide, by decide⟩ rfl rfl (Nat.le_of_ble_eq_true rfl) dX11_tray_32 rfl ?_
        intro r_23 N_24 q_25
        obtain ⟨hI_N_24, hG_N_24, q_25c⟩ := q_25
        have hF_N_24 : Fr f_e_X11_tray M N_24 := Fr.c hF_M hG_N_24 rfl
        subst q_25c
        exact kx_zret F hQ (by omega) ⟨hI_N_24, hF_N_24, (Or.inr (Or.inr (Or.inr (Or.inr (Or.inr (Or.inr (by omega))))))), (Or.inr ⟨by omega, (Fr.fn hG_N_24 hk_MMc032 rfl), (Fr.fn hG_N_24 hk_MMc031 rfl)⟩)⟩ dX11_tray_35
    · refine kx_if_eq 20 F 30 dX11_tray_17 (by decide) rfl (by omega) (fun h_26 => ?_) (fun h_26 => (by exfalso; omega))
      refine kx_aload_n 31 F 0 dX11_tray_30 rfl rfl rfl ?_
      refine kx_iconst 32 F dX11_tray_31 rfl ?_
      refine kx_Vi 35 (ci := 0) F (As := [vI 1]) (st := []) vd_X11_91 (c_X11_deny G l M c0 1 hI_M hk_c0 (by omega)) hk_c0 rfl rfl rfl ⟨by decide, by decide⟩ rfl rfl (Nat.le_of_ble_eq_true rfl) dX11_tray_32 rfl ?_
      intro r_27 N_28 q_29
      obtain ⟨hI_N_28, hG_N_28, q_29c⟩ := q_29
      have hF_N_28 : Fr f_e_X11_tray M N_28 := Fr.c hF_M hG_N_28 rfl
      subst q_29c
      exact kx_zret F hQ (by omega) ⟨hI_N_28, hF_N_28, (Or.inr (Or.inr (Or.inr (Or.inl (by omega))))), (Or.inr ⟨by omega, (Fr.fn hG_N_28 hk_MMc032 rfl), (Fr.fn hG_N_28 hk_MMc031 rfl)⟩)⟩ dX11_tray_35
    · refine kx_if_eq 20 F 30 dX11_tray_17 (by decide) rfl (by omega) (fun h_30 => ?_) (fun h_30 => (by exfalso; omega))
      refine kx_aload_n 31 F 0 dX11_tray_30 rfl rfl rfl ?_
      refine kx_iconst 32 F dX11_tray_31 rfl ?_
      refine kx_Vi 35 (ci := 0) F (As := [vI 1]) (st := []) vd_X11_91 (c_X11_deny G l M c0 1 hI_M hk_c0 (by omega)) hk_c0 rfl rfl rfl ⟨by decide, by decide⟩ rfl rfl (Nat.le_of_ble_eq_true rfl) dX11_tray_32 rfl ?_
      intro r_31 N_32 q_33
      obtain ⟨hI_N_32, hG_N_32, q_33c⟩ := q_33
      have hF_N_32 : Fr f_e_X11_tray M N_32 := Fr.c hF_M hG_N_32 rfl
      subst q_33c
      exact kx_zret F hQ (by omega) ⟨hI_N_32, hF_N_32, (Or.inr (Or.inr (Or.inr (Or.inr (Or.inl (by omega)))))), (Or.inr ⟨by omega, (Fr.fn hG_N_32 hk_MMc032 rfl), (Fr.fn hG_N_32 hk_MMc031 rfl)⟩)⟩ dX11_tray_35
  · refine kx_if_eq 11 F 30 dX11_tray_8 (by decide) rfl (by omega) (fun h_34 => ?_) (fun h_34 => (by exfalso; omega))
    refine kx_aload_n 31 F 0 dX11_tray_30 rfl rfl rfl ?_
    refine kx_iconst 32 F dX11_tray_31 rfl ?_
    refine kx_Vi 35 (ci := 0) F (As := [vI 1]) (st := []) vd_X11_91 (c_X11_deny G l M c0 1 hI_M hk_c0 (by omega)) hk_c0 rfl rfl rfl ⟨by decide, by decide⟩ rfl rfl (Nat.le_of_ble_eq_true rfl) dX11_tray_32 rfl ?_
    intro r_35 N_36 q_37
    obtain ⟨hI_N_36, hG_N_36, q_37c⟩ := q_37
    have hF_N_36 : Fr f_e_X11_tray M N_36 := Fr.c hF_M hG_N_36 rfl
    subst q_37c
    exact kx_zret F hQ (by omega) ⟨hI_N_36, hF_N_36, (Or.inr (Or.inl (by omega))), (Or.inr ⟨by omega, (Fr.fn hG_N_36 hk_MMc032 rfl), (Fr.fn hG_N_36 hk_MMc031 rfl)⟩)⟩ dX11_tray_35
  · refine kx_if_eq 11 F 30 dX11_tray_8 (by decide) rfl (by omega) (fun h_38 => ?_) (fun h_38 => (by exfalso; omega))
    refine kx_aload_n 31 F 0 dX11_tray_30 rfl rfl rfl ?_
    refine kx_iconst 32 F dX11_tray_31 rfl ?_
    refine kx_Vi 35 (ci := 0) F (As := [vI 1]) (st := []) vd_X11_91 (c_X11_deny G l M c0 1 hI_M hk_c0 (by omega)) hk_c0 rfl rfl rfl ⟨by decide, by decide⟩ rfl rfl (Nat.le_of_ble_eq_true rfl) dX11_tray_32 rfl ?_
    intro r_39 N_40 q_41
    obtain ⟨hI_N_40, hG_N_40, q_41c⟩ := q_41
    have hF_N_40 : Fr f_e_X11_tray M N_40 := Fr.c hF_M hG_N_40 rfl
    subst q_41c
    exact kx_zret F hQ (by omega) ⟨hI_N_40, hF_N_40, (Or.inr (Or.inr (Or.inl (by omega)))), (Or.inr ⟨by omega, (Fr.fn hG_N_40 hk_MMc032 rfl), (Fr.fn hG_N_40 hk_MMc031 rfl)⟩)⟩ dX11_tray_35
abbrev f_e_X11_write : List (Nat × Int) := [(14, -1), (62, 0)]
set_option maxHeartbeats 4000000 in
set_option maxRecDepth 100000 in
theorem e_X11_write (G : KG) (l : Launch) (M : Mem) (c0 : Int) (a1 : Int) (a2 : Int) (a3 : Int) (hI_M : Inv false M) (hk_c0 : kd c0 = 62) (hpre : -2147483648 ≤ a1 ∧ a1 ≤ 2147483647 ∧ -2147483648 ≤ a2 ∧ a2 ≤ 2147483647 ∧ -9223372036854775808 ≤ a3 ∧ a3 ≤ 9223372036854775807) : KC false G l yX11_write cX11_write 6 (some .boolean) (3, 65) [vR G c0, vI a1, vI a2, vL a3] M (fun A => kQi false G A (fun (r : Int) (N : Mem) => Inv false N ∧ Fr f_e_X11_write M N ∧ ((r = 1 ∧ 0 ≤ a1 ∧ a1 ≤ 3 ∧ 0 ≤ a2 ∧ a2 < (M (M (M c0 3) 2) a1) ∧ a2 ≤ 59) ∨ (r = 0 ∧ a1 < 0) ∨ (r = 0 ∧ a1 > 3) ∨ (r = 0 ∧ 0 ≤ a1 ∧ a1 ≤ 3 ∧ (M (M (M c0 3) 2) a1) = -1) ∨ (r = 0 ∧ 0 ≤ a1 ∧ a1 ≤ 3 ∧ a2 < 0) ∨ (r = 0 ∧ 0 ≤ a1 ∧ a1 ≤ 3 ∧ a2 ≥ (M (M (M c0 3) 2) a1))))) := by
  refine kx_met (lo := [some (vR G c0), some (vI a1), some (vI a2), some (vL a3), none, none]) (by decide) (Nat.le_of_ble_eq_true rfl) rfl ?_
  intro X F hQ
  have hF_M : Fr f_e_X11_write M M := Fr.rf _ _
  refine kx_aload_n 1 F 0 dX11_write_0 rfl rfl rfl ?_
  refine kx_getr 4 F fl_X11_10 hk_c0 rfl rfl (j := 3) rfl dX11_write_1 (v := (M c0 3)) rfl rfl ?_
  have hk_1 : kd (M c0 3) = 13 := Inv.r hI_M hk_c0 rfl 3 rfl rfl
  refine kx_iload_n 5 F 1 dX11_write_4 rfl rfl rfl ?_
  refine kx_iload_n 6 F 2 dX11_write_5 rfl rfl rfl ?_
  refine kx_Vi 9 (ci := 0) F (As := [vI a1, vI a2]) (st := []) vd_X11_102 (e_X9_refusal G l M (M c0 3) a1 a2 hI_M hk_1 (by omega)) hk_1 rfl rfl rfl ⟨by decide, by decide⟩ rfl rfl (Nat.le_of_ble_eq_true rfl) dX11_write_6 rfl ?_
  intro r_2 N_3 q_4
  obtain ⟨rfl, q_4c⟩ := q_4
  have hk_5 : kd (M (M c0 3) 2) = 16 := Inv.r hI_M hk_1 rfl 2 rfl rfl
  have hk_6 : kd (M (M c0 3) 2) = 16 := Inv.r hI_M hk_1 rfl 2 rfl rfl
  have hk_7 : kd (M (M c0 3) 2) = 16 := Inv.r hI_M hk_1 rfl 2 rfl rfl
  rcases q_4c with q_4c | q_4c | q_4c | q_4c | q_4c | q_4c
  · refine kx_istore 11 F 5 (lo' := [some (vR G c0), some (vI a1), some (vI a2), some (vL a3), none, some (vI r_2)]) dX11_write_9 (by decide) rfl rfl rfl ?_
    refine kx_iload 13 F 5 dX11_write_11 rfl rfl ?_
    refine kx_if_eq 16 F 23 dX11_write_13 (by decide) rfl (by omega) (fun h_8 => ?_) (fun h_8 => (by exfalso; omega))
    refine kx_aload_n 24 F 0 dX11_write_23 rfl rfl rfl ?_
    refine kx_getr 27 F fl_X11_10 hk_c0 rfl rfl (j := 3) rfl dX11_write_24 (v := (M c0 3)) rfl rfl ?_
    refine kx_iload_n 28 F 1 dX11_write_27 rfl rfl rfl ?_
    refine kx_iload_n 29 F 2 dX11_write_28 rfl rfl rfl ?_
    refine kx_lload_n 30 F 3 dX11_write_29 rfl rfl rfl ?_
    refine kx_Vv 33 (ci := 0) F (As := [vI a1, vI a2, vL a3]) (st := []) vd_X11_106 (c_X9_set G l M (M c0 3) a1 a2 a3 hI_M hk_1 (by omega)) hk_1 rfl rfl rfl ⟨by decide, by decide⟩ rfl rfl (Nat.le_of_ble_eq_true rfl) dX11_write_30 rfl ?_
    intro N_9 q_10
    obtain ⟨hI_N_9, hG_N_9⟩ := q_10
    have hF_N_9 : Fr f_e_X11_write M N_9 := Fr.c hF_M hG_N_9 rfl
    refine kx_aload_n 34 F 0 dX11_write_33 rfl rfl rfl ?_
    refine kx_Vi 37 (ci := 0) F (As := []) (st := []) vd_X11_98 (c_X11_agree G l N_9 c0 hI_N_9 hk_c0) hk_c0 rfl rfl rfl ⟨by decide, by decide⟩ rfl rfl (Nat.le_of_ble_eq_true rfl) dX11_write_34 rfl ?_
    intro r_11 N_12 q_13
    obtain ⟨hI_N_12, hG_N_12, q_13c⟩ := q_13
    have hF_N_12 : Fr f_e_X11_write M N_12 := Fr.c hF_N_9 hG_N_12 rfl
    subst q_13c
    exact kx_zret F hQ (by omega) ⟨hI_N_12, hF_N_12, (Or.inl (by omega))⟩ dX11_write_37
  · refine kx_istore 11 F 5 (lo' := [some (vR G c0), some (vI a1), some (vI a2), some (vL a3), none, some (vI r_2)]) dX11_write_9 (by decide) rfl rfl rfl ?_
    refine kx_iload 13 F 5 dX11_write_11 rfl rfl ?_
    refine kx_if_eq 16 F 23 dX11_write_13 (by decide) rfl (by omega) (fun h_14 => (by exfalso; omega)) (fun h_14 => ?_)
    refine kx_aload_n 17 F 0 dX11_write_16 rfl rfl rfl ?_
    refine kx_iload 19 F 5 dX11_write_17 rfl rfl ?_
    refine kx_Vi 22 (ci := 0) F (As := [vI r_2]) (st := []) vd_X11_91 (c_X11_deny G l M c0 r_2 hI_M hk_c0 (by omega)) hk_c0 rfl rfl rfl ⟨by decide, by decide⟩ rfl rfl (Nat.le_of_ble_eq_true rfl) dX11_write_19 rfl ?_
    intro r_15 N_16 q_17
    obtain ⟨hI_N_16, hG_N_16, q_17c⟩ := q_17
    have hF_N_16 : Fr f_e_X11_write M N_16 := Fr.c hF_M hG_N_16 rfl
    subst q_17c
    exact kx_zret F hQ (by omega) ⟨hI_N_16, hF_N_16, (Or.inr (Or.inl (by omega)))⟩ dX11_write_22
  · refine kx_istore 11 F 5 (lo' := [some (vR G c0), some (vI a1), some (vI a2), some (vL a3), none, some (vI r_2)]) dX11_write_9 (by decide) rfl rfl rfl ?_
    refine kx_iload 13 F 5 dX11_write_11 rfl rfl ?_
    refine kx_if_eq 16 F 23 dX11_write_13 (by decide) rfl (by omega) (fun h_18 => (by exfalso; omega)) (fun h_18 => ?_)
    refine kx_aload_n 17 F 0 dX11_write_16 rfl rfl rfl ?_
    refine kx_iload 19 F 5 dX11_write_17 rfl rfl ?_
    refine kx_Vi 22 (ci := 0) F (As := [vI r_2]) (st := []) vd_X11_91 (c_X11_deny G l M c0 r_2 hI_M hk_c0 (by omega)) hk_c0 rfl rfl rfl ⟨by decide, by decide⟩ rfl rfl (Nat.le_of_ble_eq_true rfl) dX11_write_19 rfl ?_
    intro r_19 N_20 q_21
    obtain ⟨hI_N_20, hG_N_20, q_21c⟩ := q_21
    have hF_N_20 : Fr f_e_X11_write M N_20 := Fr.c hF_M hG_N_20 rfl
    subst q_21c
    exact kx_zret F hQ (by omega) ⟨hI_N_20, hF_N_20, (Or.inr (Or.inr (Or.inl (by omega))))⟩ dX11_write_22
  · refine kx_istore 11 F 5 (lo' := [some (vR G c0), some (vI a1), some (vI a2), some (vL a3), none, some (vI r_2)]) dX11_write_9 (by decide) rfl rfl rfl ?_
    refine kx_iload 13 F 5 dX11_write_11 rfl rfl ?_
    refine kx_if_eq 16 F 23 dX11_write_13 (by decide) rfl (by omega) (fun h_22 => (by exfalso; omega)) (fun h_22 => ?_)
    refine kx_aload_n 17 F 0 dX11_write_16 rfl rfl rfl ?_
    refine kx_iload 19 F 5 dX11_write_17 rfl rfl ?_
    refine kx_Vi 22 (ci := 0) F (As := [vI r_2]) (st := []) vd_X11_91 (c_X11_deny G l M c0 r_2 hI_M hk_c0 (by omega)) hk_c0 rfl rfl rfl ⟨by decide, by decide⟩ rfl rfl (Nat.le_of_ble_eq_true rfl) dX11_write_19 rfl ?_
    intro r_23 N_24 q_25
    obtain ⟨hI_N_24, hG_N_24, q_25c⟩ := q_25
    have hF_N_24 : Fr f_e_X11_write M N_24 := Fr.c hF_M hG_N_24 rfl
    subst q_25c
    exact kx_zret F hQ (by omega) ⟨hI_N_24, hF_N_24, (Or.inr (Or.inr (Or.inr (Or.inl (by omega)))))⟩ dX11_write_22
  · refine kx_istore 11 F 5 (lo' := [some (vR G c0), some (vI a1), some (vI a2), some (vL a3), none, some (vI r_2)]) dX11_write_9 (by decide) rfl rfl rfl ?_
    refine kx_iload 13 F 5 dX11_write_11 rfl rfl ?_
    refine kx_if_eq 16 F 23 dX11_write_13 (by decide) rfl (by omega) (fun h_26 => (by exfalso; omega)) (fun h_26 => ?_)
    refine kx_aload_n 17 F 0 dX11_write_16 rfl rfl rfl ?_
    refine kx_iload 19 F 5 dX11_write_17 rfl rfl ?_
    refine kx_Vi 22 (ci := 0) F (As := [vI r_2]) (st := []) vd_X11_91 (c_X11_deny G l M c0 r_2 hI_M hk_c0 (by omega)) hk_c0 rfl rfl rfl ⟨by decide, by decide⟩ rfl rfl (Nat.le_of_ble_eq_true rfl) dX11_write_19 rfl ?_
    intro r_27 N_28 q_29
    obtain ⟨hI_N_28, hG_N_28, q_29c⟩ := q_29
    have hF_N_28 : Fr f_e_X11_write M N_28 := Fr.c hF_M hG_N_28 rfl
    subst q_29c
    exact kx_zret F hQ (by omega) ⟨hI_N_28, hF_N_28, (Or.inr (Or.inr (Or.inr (Or.inr (Or.inl (by omega))))))⟩ dX11_write_22
  · refine kx_istore 11 F 5 (lo' := [some (vR G c0), some (vI a1), some (vI a2), some (vL a3), none, some (vI r_2)]) dX11_write_9 (by decide) rfl rfl rfl ?_
    refine kx_iload 13 F 5 dX11_write_11 rfl rfl ?_
    refine kx_if_eq 16 F 23 dX11_write_13 (by decide) rfl (by omega) (fun h_30 => (by exfalso; omega)) (fun h_30 => ?_)
    refine kx_aload_n 17 F 0 dX11_write_16 rfl rfl rfl ?_
    refine kx_iload 19 F 5 dX11_write_17 rfl rfl ?_
    refine kx_Vi 22 (ci := 0) F (As := [vI r_2]) (st := []) vd_X11_91 (c_X11_deny G l M c0 r_2 hI_M hk_c0 (by omega)) hk_c0 rfl rfl rfl ⟨by decide, by decide⟩ rfl rfl (Nat.le_of_ble_eq_true rfl) dX11_write_19 rfl ?_
    intro r_31 N_32 q_33
    obtain ⟨hI_N_32, hG_N_32, q_33c⟩ := q_33
    have hF_N_32 : Fr f_e_X11_write M N_32 := Fr.c hF_M hG_N_32 rfl
    subst q_33c
    exact kx_zret F hQ (by omega) ⟨hI_N_32, hF_N_32, (Or.inr (Or.inr (Or.inr (Or.inr (Or.inr (by omega))))))⟩ dX11_write_22
abbrev f_e_X11_pour : List (Nat × Int) := [(14, -1), (62, 0)]
set_option maxHeartbeats 4000000 in
set_option maxRecDepth 100000 in
theorem e_X11_pour (G : KG) (l : Launch) (M : Mem) (c0 : Int) (a1 : Int) (a2 : Int) (a3 : Int) (a4 : Int) (a5 : Int) (hI_M : Inv false M) (hk_c0 : kd c0 = 62) (hpre : -2147483648 ≤ a1 ∧ a1 ≤ 2147483647 ∧ -2147483648 ≤ a2 ∧ a2 ≤ 2147483647 ∧ -2147483648 ≤ a3 ∧ a3 ≤ 2147483647 ∧ -2147483648 ≤ a4 ∧ a4 ≤ 2147483647 ∧ -2147483648 ≤ a5 ∧ a5 ≤ 2147483647) : KC false G l yX11_pour cX11_pour 7 (some .boolean) (3, 69) [vR G c0, vI a1, vI a2, vI a3, vI a4, vI a5] M (fun A => kQi false G A (fun (r : Int) (N : Mem) => Inv false N ∧ Fr f_e_X11_pour M N ∧ (r ≥ 0 ∧ r ≤ 1) ∧ (PPr r a1 a2 a3 a4 a5 (M (M (M c0 3) 2) a1) (M (M (M c0 3) 2) a3) (M (M (M c0 3) 1) a1) (M (M (M c0 3) 1) a3)))) := by
  refine kx_met (lo := [some (vR G c0), some (vI a1), some (vI a2), some (vI a3), some (vI a4), some (vI a5), none]) (by decide) (Nat.le_of_ble_eq_true rfl) rfl ?_
  intro X F hQ
  have hF_M : Fr f_e_X11_pour M M := Fr.rf _ _
  refine kx_aload_n 1 F 0 dX11_pour_0 rfl rfl rfl ?_
  refine kx_getr 4 F fl_X11_10 hk_c0 rfl rfl (j := 3) rfl dX11_pour_1 (v := (M c0 3)) rfl rfl ?_
  have hk_1 : kd (M c0 3) = 13 := Inv.r hI_M hk_c0 rfl 3 rfl rfl
  refine kx_iload_n 5 F 1 dX11_pour_4 rfl rfl rfl ?_
  refine kx_iload_n 6 F 2 dX11_pour_5 rfl rfl rfl ?_
  refine kx_iload_n 7 F 3 dX11_pour_6 rfl rfl rfl ?_
  refine kx_iload 9 F 4 dX11_pour_7 rfl rfl ?_
  refine kx_iload 11 F 5 dX11_pour_9 rfl rfl ?_
  refine kx_Vi 14 (ci := 0) F (As := [vI a1, vI a2, vI a3, vI a4, vI a5]) (st := []) vd_X11_118 (e_X9_pourRefusal G l M (M c0 3) a1 a2 a3 a4 a5 hI_M hk_1 (by omega)) hk_1 rfl rfl rfl ⟨by decide, by decide⟩ rfl rfl (Nat.le_of_ble_eq_true rfl) dX11_pour_11 rfl ?_
  intro r_2 N_3 q_4
  obtain ⟨rfl, q_4c, hu_N_3⟩ := q_4
  refine kx_istore 16 F 6 (lo' := [some (vR G c0), some (vI a1), some (vI a2), some (vI a3), some (vI a4), some (vI a5), some (vI r_2)]) dX11_pour_14 (by decide) rfl rfl rfl ?_
  refine kx_iload 18 F 6 dX11_pour_16 rfl rfl ?_
  refine kx_if_eq 21 F 28 dX11_pour_18 (by decide) rfl (by omega) (fun h_5 => ?_) (fun h_5 => ?_)
  · have hk_6 := PRr.k hu_N_3 (by omega)
    refine kx_aload_n 29 F 0 dX11_pour_28 rfl rfl rfl ?_
    refine kx_getr 32 F fl_X11_10 hk_c0 rfl rfl (j := 3) rfl dX11_pour_29 (v := (M c0 3)) rfl rfl ?_
    refine kx_iload_n 33 F 1 dX11_pour_32 rfl rfl rfl ?_
    refine kx_iload_n 34 F 2 dX11_pour_33 rfl rfl rfl ?_
    refine kx_iload_n 35 F 3 dX11_pour_34 rfl rfl rfl ?_
    refine kx_iload 37 F 4 dX11_pour_35 rfl rfl ?_
    refine kx_iload 39 F 5 dX11_pour_37 rfl rfl ?_
    refine kx_Vv 42 (ci := 0) F (As := [vI a1, vI a2, vI a3, vI a4, vI a5]) (st := []) vd_X11_122 (c_X9_move G l M (M c0 3) a1 a2 a3 a4 a5 hI_M hk_1 (by omega)) hk_1 rfl rfl rfl ⟨by decide, by decide⟩ rfl rfl (Nat.le_of_ble_eq_true rfl) dX11_pour_39 rfl ?_
    intro N_7 q_8
    obtain ⟨hI_N_7, hG_N_7⟩ := q_8
    have hF_N_7 : Fr f_e_X11_pour M N_7 := Fr.c hF_M hG_N_7 rfl
    refine kx_aload_n 43 F 0 dX11_pour_42 rfl rfl rfl ?_
    refine kx_Vi 46 (ci := 0) F (As := []) (st := []) vd_X11_98 (c_X11_agree G l N_7 c0 hI_N_7 hk_c0) hk_c0 rfl rfl rfl ⟨by decide, by decide⟩ rfl rfl (Nat.le_of_ble_eq_true rfl) dX11_pour_43 rfl ?_
    intro r_9 N_10 q_11
    obtain ⟨hI_N_10, hG_N_10, q_11c⟩ := q_11
    have hF_N_10 : Fr f_e_X11_pour M N_10 := Fr.c hF_N_7 hG_N_10 rfl
    subst q_11c
    exact kx_zret F hQ (by omega) ⟨hI_N_10, hF_N_10, (by omega), (PRr.y hu_N_3 (by omega))⟩ dX11_pour_46
  · refine kx_aload_n 22 F 0 dX11_pour_21 rfl rfl rfl ?_
    refine kx_iload 24 F 6 dX11_pour_22 rfl rfl ?_
    refine kx_Vi 27 (ci := 0) F (As := [vI r_2]) (st := []) vd_X11_91 (c_X11_deny G l M c0 r_2 hI_M hk_c0 (by omega)) hk_c0 rfl rfl rfl ⟨by decide, by decide⟩ rfl rfl (Nat.le_of_ble_eq_true rfl) dX11_pour_24 rfl ?_
    intro r_12 N_13 q_14
    obtain ⟨hI_N_13, hG_N_13, q_14c⟩ := q_14
    have hF_N_13 : Fr f_e_X11_pour M N_13 := Fr.c hF_M hG_N_13 rfl
    subst q_14c
    exact kx_zret F hQ (by omega) ⟨hI_N_13, hF_N_13, (by omega), (PRr.n hu_N_3 (by omega))⟩ dX11_pour_27
abbrev f_e_X1_append : List (Nat × Int) := [(17, 1), (18, -1)]
set_option maxHeartbeats 4000000 in
set_option maxRecDepth 100000 in
theorem e_X1_append (G : KG) (l : Launch) (M : Mem) (c0 : Int) (a1 : Int) (hI_M : Inv false M) (hk_c0 : kd c0 = 17) (hpre : -2147483648 ≤ a1 ∧ a1 ≤ 2147483647 ∧ (M c0 1) ≤ 896) : KC false G l yX1_append cX1_append 3 none (0, 0) [vR G c0, vI a1] M (fun A => kQv false G A (fun (N : Mem) => Inv false N ∧ Fr f_e_X1_append M N ∧ ((N c0 1) = (M c0 1) + 4))) := by
  refine kx_met (lo := [some (vR G c0), some (vI a1), none]) (by decide) (Nat.le_of_ble_eq_true rfl) rfl ?_
  intro X F hQ
  have hF_M : Fr f_e_X1_append M M := Fr.rf _ _
  have h_1 := Inv.g hI_M hk_c0 rfl 1 (a := 0) (b := 900) rfl rfl
  refine kx_bipush 2 F dX1_append_0 (by decide) rfl ?_
  refine kx_istore_n 3 F 2 (lo' := [some (vR G c0), some (vI a1), some (vI 24)]) dX1_append_2 rfl (by decide) rfl rfl rfl ?_
  have L_72 : ∀ (n_73 : Nat) (x2_70 : Int) (N_71 : Mem), Inv false N_71 → Fr f_e_X1_append M N_71 → (-8) ≤ x2_70 ∧ x2_70 ≤ 24 ∧ 8 * (N_71 c0 1) + x2_70 = 8 * (M c0 1) + 24 → ((x2_70) - (-8)).toNat = n_73 → KJ false G X N_71 3 [some (vR G c0), some (vI a1), some (vI x2_70)] [] := by
    intro n_73
    refine Nat.strongRecOn n_73 ?_
    intro n_73 ih_74 x2_70 N_71 hI_N_71 hF_N_71 h_75 hm_76
    refine kx_iload_n 4 F 2 dX1_append_3 rfl rfl rfl ?_
    refine kx_if_lt 7 F 46 dX1_append_4 (by decide) rfl (by omega) (fun h_77 => ?_) (fun h_77 => ?_)
    · have h_78 := Inv.g hI_N_71 hk_c0 rfl 1 (a := 0) (b := 900) rfl rfl
      exact kx_vret F hQ ⟨hI_N_71, hF_N_71, (by omega)⟩ dX1_append_46
    · refine kx_aload_n 8 F 0 dX1_append_7 rfl rfl rfl ?_
      refine kx_geti 11 F fl_X1_36 hk_c0 rfl rfl (j := 1) rfl dX1_append_8 (v := (N_71 c0 1)) rfl rfl ?_
      have h_79 := Inv.g hI_N_71 hk_c0 rfl 1 (a := 0) (b := 900) rfl rfl
      refine kx_sipush 14 F dX1_append_11 (by decide) rfl ?_
      refine kx_icmp_ge 17 F 46 dX1_append_14 (by decide) rfl (by omega) (by decide) (fun h_80 => (by exfalso; omega)) (fun h_80 => ?_)
      refine kx_aload_n 18 F 0 dX1_append_17 rfl rfl rfl ?_
      refine kx_getr 21 F fl_X1_25 hk_c0 rfl rfl (j := 4) rfl dX1_append_18 (v := (M c0 4)) (by rw [Fr.e hF_N_71 hk_c0 _ rfl]) rfl ?_
      have hk_81 : kd (M c0 4) = 18 := Inv.r hI_M hk_c0 rfl 4 rfl rfl
      refine kx_aload_n 22 F 0 dX1_append_21 rfl rfl rfl ?_
      refine kx_geti 25 F fl_X1_36 hk_c0 rfl rfl (j := 1) rfl dX1_append_22 (v := (N_71 c0 1)) rfl rfl ?_
      refine kx_iload_n 26 F 1 dX1_append_25 rfl rfl rfl ?_
      refine kx_iload_n 27 F 2 dX1_append_26 rfl rfl rfl ?_
      refine kx_ishr 28 F (v := (zshr a1 x2_70)) dX1_append_27 rfl rfl ?_
      have h_82 := zshr_rng a1 x2_70
      refine kx_i2b 29 F dX1_append_28 rfl (fun w_83 h_84 _ => ?_)
      refine kx_bast 30 F (by omega) hk_81 rfl rfl (by omega) (by decide) dX1_append_29 rfl ?_
      intro N_85 hM_N_85
      have hI_N_85 : Inv false N_85 := Inv.u hI_N_71 hM_N_85 hk_81 (a := (-128)) (b := 127) rfl rfl rfl (by omega)
      have hF_N_85 : Fr f_e_X1_append M N_85 := Fr.u hF_N_71 hM_N_85 hk_81 rfl
      refine kx_aload_n 31 F 0 dX1_append_30 rfl rfl rfl ?_
      refine kx_dup 32 F dX1_append_31 rfl rfl ?_
      refine kx_geti 35 F fl_X1_36 hk_c0 rfl rfl (j := 1) rfl dX1_append_32 (v := (N_71 c0 1)) (by rw [hM_N_85, mu_k hk_c0 hk_81 rfl]) rfl ?_
      refine kx_iconst 36 F dX1_append_35 rfl ?_
      refine kx_iadd 37 F (v := (N_71 c0 1) + 1) dX1_append_36 rfl rfl ?_
      refine kx_puti 40 F fw_X1_36 rfl hk_c0 rfl rfl (j := 1) rfl dX1_append_37 rfl ?_
      intro N_86 hM_N_86
      have hI_N_86 : Inv false N_86 := Inv.u hI_N_85 hM_N_86 hk_c0 (a := 0) (b := 900) rfl rfl rfl (by omega)
      have hF_N_86 : Fr f_e_X1_append M N_86 := Fr.u hF_N_85 hM_N_86 hk_c0 rfl
      refine kx_iinc 43 F 2 (v := x2_70 - 8) (lo' := [some (vR G c0), some (vI a1), some (vI (x2_70 - 8))]) dX1_append_40 rfl (by omega) (by decide) rfl rfl rfl ?_
      refine kx_goto 3 F dX1_append_43 (by decide) ?_
      have e_87 : (N_86 c0 1) = (N_71 c0 1) + 1 := by rw [hM_N_86, mu_s]
      exact ih_74 _ (by omega) (x2_70 - 8) N_86 hI_N_86 hF_N_86 (by omega) rfl
  exact L_72 _ 24 M hI_M hF_M (by omega) rfl
abbrev f_e_X11_feed : List (Nat × Int) := [(17, 1), (18, -1)]
set_option maxHeartbeats 4000000 in
set_option maxRecDepth 100000 in
theorem e_X11_feed (G : KG) (l : Launch) (M : Mem) (c0 : Int) (a1 : Int) (a2 : Int) (a3 : Int) (a4 : Int) (a5 : Int) (hI_M : Inv false M) (hk_c0 : kd c0 = 62) (hpre : -2147483648 ≤ a1 ∧ a1 ≤ 2147483647 ∧ -2147483648 ≤ a2 ∧ a2 ≤ 2147483647 ∧ -2147483648 ≤ a3 ∧ a3 ≤ 2147483647 ∧ -2147483648 ≤ a4 ∧ a4 ≤ 2147483647 ∧ -2147483648 ≤ a5 ∧ a5 ≤ 2147483647) : KC false G l yX11_feed cX11_feed 6 (some .int) (1, 22) [vR G c0, vI a1, vI a2, vI a3, vI a4, vI a5] M (fun A => kQi false G A (fun (r : Int) (N : Mem) => Inv false N ∧ Fr f_e_X11_feed M N ∧ (((M (M c0 4) 1) ≥ 881 ∧ r = -1 ∧ (N (M c0 4) 1) = (M (M c0 4) 1)) ∨ ((M (M c0 4) 1) ≤ 880 ∧ r = (M (M c0 4) 1) + 20 ∧ (N (M c0 4) 1) = (M (M c0 4) 1) + 20)))) := by
  refine kx_met (lo := [some (vR G c0), some (vI a1), some (vI a2), some (vI a3), some (vI a4), some (vI a5)]) (by decide) (Nat.le_of_ble_eq_true rfl) rfl ?_
  intro X F hQ
  have hF_M : Fr f_e_X11_feed M M := Fr.rf _ _
  refine kx_aload_n 1 F 0 dX11_feed_0 rfl rfl rfl ?_
  refine kx_getr 4 F fl_X11_19 hk_c0 rfl rfl (j := 4) rfl dX11_feed_1 (v := (M c0 4)) rfl rfl ?_
  have hk_1 : kd (M c0 4) = 17 := Inv.r hI_M hk_c0 rfl 4 rfl rfl
  refine kx_geti 7 F fl_X11_126 hk_1 rfl rfl (j := 1) rfl dX11_feed_4 (v := (M (M c0 4) 1)) rfl rfl ?_
  have h_2 := Inv.g hI_M hk_1 rfl 1 (a := 0) (b := 900) rfl rfl
  refine kx_bipush 9 F dX11_feed_7 (by decide) rfl ?_
  refine kx_iadd 10 F (v := (M (M c0 4) 1) + 20) dX11_feed_9 rfl rfl ?_
  refine kx_sipush 13 F dX11_feed_10 (by decide) rfl ?_
  refine kx_icmp_le 16 F 18 dX11_feed_13 (by decide) rfl (by omega) (by decide) (fun h_3 => ?_) (fun h_3 => ?_)
  · refine kx_aload_n 19 F 0 dX11_feed_18 rfl rfl rfl ?_
    refine kx_getr 22 F fl_X11_19 hk_c0 rfl rfl (j := 4) rfl dX11_feed_19 (v := (M c0 4)) rfl rfl ?_
    refine kx_iload_n 23 F 1 dX11_feed_22 rfl rfl rfl ?_
    refine kx_Vv 26 (ci := 0) F (As := [vI a1]) (st := []) vd_X11_129 (e_X1_append G l M (M c0 4) a1 hI_M hk_1 (by omega)) hk_1 rfl rfl rfl ⟨by decide, by decide⟩ rfl rfl (Nat.le_of_ble_eq_true rfl) dX11_feed_23 rfl ?_
    intro N_4 q_5
    obtain ⟨hI_N_4, hG_N_4, q_5c⟩ := q_5
    have hF_N_4 : Fr f_e_X11_feed M N_4 := Fr.c hF_M hG_N_4 rfl
    have h_6 := Inv.g hI_N_4 hk_1 rfl 1 (a := 0) (b := 900) rfl rfl
    refine kx_aload_n 27 F 0 dX11_feed_26 rfl rfl rfl ?_
    refine kx_getr 30 F fl_X11_19 hk_c0 rfl rfl (j := 4) rfl dX11_feed_27 (v := (M c0 4)) (by rw [Fr.e hG_N_4 hk_c0 _ rfl]) rfl ?_
    refine kx_iload_n 31 F 2 dX11_feed_30 rfl rfl rfl ?_
    refine kx_Vv 34 (ci := 0) F (As := [vI a2]) (st := []) vd_X11_129 (e_X1_append G l N_4 (M c0 4) a2 hI_N_4 hk_1 (by omega)) hk_1 rfl rfl rfl ⟨by decide, by decide⟩ rfl rfl (Nat.le_of_ble_eq_true rfl) dX11_feed_31 rfl ?_
    intro N_7 q_8
    obtain ⟨hI_N_7, hG_N_7, q_8c⟩ := q_8
    have hF_N_7 : Fr f_e_X11_feed M N_7 := Fr.c hF_N_4 hG_N_7 rfl
    have h_9 := Inv.g hI_N_7 hk_1 rfl 1 (a := 0) (b := 900) rfl rfl
    refine kx_aload_n 35 F 0 dX11_feed_34 rfl rfl rfl ?_
    refine kx_getr 38 F fl_X11_19 hk_c0 rfl rfl (j := 4) rfl dX11_feed_35 (v := (M c0 4)) (by rw [Fr.e hG_N_7 hk_c0 _ rfl, Fr.e hG_N_4 hk_c0 _ rfl]) rfl ?_
    refine kx_iload_n 39 F 3 dX11_feed_38 rfl rfl rfl ?_
    refine kx_Vv 42 (ci := 0) F (As := [vI a3]) (st := []) vd_X11_129 (e_X1_append G l N_7 (M c0 4) a3 hI_N_7 hk_1 (by omega)) hk_1 rfl rfl rfl ⟨by decide, by decide⟩ rfl rfl (Nat.le_of_ble_eq_true rfl) dX11_feed_39 rfl ?_
    intro N_10 q_11
    obtain ⟨hI_N_10, hG_N_10, q_11c⟩ := q_11
    have hF_N_10 : Fr f_e_X11_feed M N_10 := Fr.c hF_N_7 hG_N_10 rfl
    have h_12 := Inv.g hI_N_10 hk_1 rfl 1 (a := 0) (b := 900) rfl rfl
    refine kx_aload_n 43 F 0 dX11_feed_42 rfl rfl rfl ?_
    refine kx_getr 46 F fl_X11_19 hk_c0 rfl rfl (j := 4) rfl dX11_feed_43 (v := (M c0 4)) (by rw [Fr.e hG_N_10 hk_c0 _ rfl, Fr.e hG_N_7 hk_c0 _ rfl, Fr.e hG_N_4 hk_c0 _ rfl]) rfl ?_
    refine kx_iload 48 F 4 dX11_feed_46 rfl rfl ?_
    refine kx_Vv 51 (ci := 0) F (As := [vI a4]) (st := []) vd_X11_129 (e_X1_append G l N_10 (M c0 4) a4 hI_N_10 hk_1 (by omega)) hk_1 rfl rfl rfl ⟨by decide, by decide⟩ rfl rfl (Nat.le_of_ble_eq_true rfl) dX11_feed_48 rfl ?_
    intro N_13 q_14
    obtain ⟨hI_N_13, hG_N_13, q_14c⟩ := q_14
    have hF_N_13 : Fr f_e_X11_feed M N_13 := Fr.c hF_N_10 hG_N_13 rfl
    have h_15 := Inv.g hI_N_13 hk_1 rfl 1 (a := 0) (b := 900) rfl rfl
    refine kx_aload_n 52 F 0 dX11_feed_51 rfl rfl rfl ?_
    refine kx_getr 55 F fl_X11_19 hk_c0 rfl rfl (j := 4) rfl dX11_feed_52 (v := (M c0 4)) (by rw [Fr.e hG_N_13 hk_c0 _ rfl, Fr.e hG_N_10 hk_c0 _ rfl, Fr.e hG_N_7 hk_c0 _ rfl, Fr.e hG_N_4 hk_c0 _ rfl]) rfl ?_
    refine kx_iload 57 F 5 dX11_feed_55 rfl rfl ?_
    refine kx_Vv 60 (ci := 0) F (As := [vI a5]) (st := []) vd_X11_129 (e_X1_append G l N_13 (M c0 4) a5 hI_N_13 hk_1 (by omega)) hk_1 rfl rfl rfl ⟨by decide, by decide⟩ rfl rfl (Nat.le_of_ble_eq_true rfl) dX11_feed_57 rfl ?_
    intro N_16 q_17
    obtain ⟨hI_N_16, hG_N_16, q_17c⟩ := q_17
    have hF_N_16 : Fr f_e_X11_feed M N_16 := Fr.c hF_N_13 hG_N_16 rfl
    have h_18 := Inv.g hI_N_16 hk_1 rfl 1 (a := 0) (b := 900) rfl rfl
    refine kx_aload_n 61 F 0 dX11_feed_60 rfl rfl rfl ?_
    refine kx_getr 64 F fl_X11_19 hk_c0 rfl rfl (j := 4) rfl dX11_feed_61 (v := (M c0 4)) (by rw [Fr.e hG_N_16 hk_c0 _ rfl, Fr.e hG_N_13 hk_c0 _ rfl, Fr.e hG_N_10 hk_c0 _ rfl, Fr.e hG_N_7 hk_c0 _ rfl, Fr.e hG_N_4 hk_c0 _ rfl]) rfl ?_
    refine kx_geti 67 F fl_X11_126 hk_1 rfl rfl (j := 1) rfl dX11_feed_64 (v := (N_16 (M c0 4) 1)) rfl rfl ?_
    exact kx_iret F hQ ⟨hI_N_16, hF_N_16, (by omega)⟩ dX11_feed_67
  · refine kx_iconst 17 F dX11_feed_16 rfl ?_
    exact kx_iret F hQ ⟨hI_M, hF_M, (by omega)⟩ dX11_feed_17
abbrev f_e_X1_take : List (Nat × Int) := [(1, 0), (1, 1), (1, 2), (1, 3), (1, 4), (1, 5), (2, -1), (3, -1), (4, -1), (5, -1), (6, -1), (7, -1), (8, 0), (12, 0), (12, 1), (12, 2), (12, 3), (17, 1), (17, 2), (17, 3), (17, 5), (17, 6), (17, 7), (17, 8), (17, 9), (19, -1), (20, -1)]
set_option maxHeartbeats 4000000 in
set_option maxRecDepth 100000 in
theorem e_X1_take (G : KG) (l : Launch) (M : Mem) (c0 : Int) (a1 : Int) (hI_M : Inv false M) (hk_c0 : kd c0 = 17) (hpre : -2147483648 ≤ a1 ∧ a1 ≤ 2147483647 ∧ 0 ≤ a1) (hX_M : XX M) : KC false G l yX1_take cX1_take 4 (some .boolean) (9, 195) [vR G c0, vI a1] M (fun A => kQi false G A (fun (r : Int) (N : Mem) => Inv false N ∧ Fr f_e_X1_take M N ∧ ((N c0 1) = 0 ∧ r ≥ 0 ∧ r ≤ 1) ∧ XX N)) := by
  refine kx_met (lo := [some (vR G c0), some (vI a1), none, none]) (by decide) (Nat.le_of_ble_eq_true rfl) rfl ?_
  intro X F hQ
  have hF_M : Fr f_e_X1_take M M := Fr.rf _ _
  refine kx_aload_n 1 F 0 dX1_take_0 rfl rfl rfl ?_
  refine kx_iload_n 2 F 1 dX1_take_1 rfl rfl rfl ?_
  refine kx_sipush 5 F dX1_take_2 (by decide) rfl ?_
  refine kx_mmin 8 F dX1_take_5 (tt lm_799 rfl) (tt lm_800 rfl) (tt lm_180 rfl) (tt lm_801 rfl) (by decide) (Nat.le_of_ble_eq_true rfl) (by omega) (by omega) rfl (fun w_1 h_2 => ?_)
  refine kx_puti 11 F fw_X1_45 rfl hk_c0 rfl rfl (j := 5) rfl dX1_take_8 rfl ?_
  intro N_3 hM_N_3
  have hI_N_3 : Inv false N_3 := Inv.u hI_M hM_N_3 hk_c0 (a := 0) (b := 900) rfl rfl rfl (by omega)
  have hF_N_3 : Fr f_e_X1_take M N_3 := Fr.u hF_M hM_N_3 hk_c0 rfl
  have hX_N_3 : XX N_3 := XX.st hX_M hI_M hM_N_3 hk_c0 rfl
  refine kx_aload_n 12 F 0 dX1_take_11 rfl rfl rfl ?_
  refine kx_iconst 13 F dX1_take_12 rfl ?_
  refine kx_puti 16 F fw_X1_36 rfl hk_c0 rfl rfl (j := 1) rfl dX1_take_13 rfl ?_
  intro N_4 hM_N_4
  have hI_N_4 : Inv false N_4 := Inv.u hI_N_3 hM_N_4 hk_c0 (a := 0) (b := 900) rfl rfl rfl (by omega)
  have hF_N_4 : Fr f_e_X1_take M N_4 := Fr.u hF_N_3 hM_N_4 hk_c0 rfl
  have hX_N_4 : XX N_4 := XX.st hX_N_3 hI_N_3 hM_N_4 hk_c0 rfl
  refine kx_aload_n 17 F 0 dX1_take_16 rfl rfl rfl ?_
  refine kx_getr 20 F fl_X1_12 hk_c0 rfl rfl (j := 0) rfl dX1_take_17 (v := (M c0 0)) (by rw [hM_N_4, mu_i (by omega), hM_N_3, mu_i (by omega)]) rfl ?_
  have hk_5 : kd (M c0 0) = 12 := Inv.r hI_M hk_c0 rfl 0 rfl rfl
  refine kx_Vv 23 (ci := 0) F (As := []) (st := []) vd_X1_48 (c_X5_clear G l N_4 (M c0 0) hI_N_4 hk_5 hX_N_4) hk_5 rfl rfl rfl ⟨by decide, by decide⟩ rfl rfl (Nat.le_of_ble_eq_true rfl) dX1_take_20 rfl ?_
  intro N_6 q_7
  obtain ⟨hI_N_6, hG_N_6, hX_N_6⟩ := q_7
  have hF_N_6 : Fr f_e_X1_take M N_6 := Fr.c hF_N_4 hG_N_6 rfl
  refine kx_aload_n 24 F 0 dX1_take_23 rfl rfl rfl ?_
  refine kx_iconst 25 F dX1_take_24 rfl ?_
  refine kx_puti 28 F fw_X1_18 rfl hk_c0 rfl rfl (j := 2) rfl dX1_take_25 rfl ?_
  intro N_8 hM_N_8
  have hI_N_8 : Inv false N_8 := Inv.u hI_N_6 hM_N_8 hk_c0 (a := (-2147483648)) (b := 2147483647) rfl rfl rfl (by omega)
  have hF_N_8 : Fr f_e_X1_take M N_8 := Fr.u hF_N_6 hM_N_8 hk_c0 rfl
  have hX_N_8 : XX N_8 := XX.st hX_N_6 hI_N_6 hM_N_8 hk_c0 rfl
  refine kx_aload_n 29 F 0 dX1_take_28 rfl rfl rfl ?_
  refine kx_iconst 30 F dX1_take_29 rfl ?_
  refine kx_puti 33 F fw_X1_22 rfl hk_c0 rfl rfl (j := 3) rfl dX1_take_30 rfl ?_
  intro N_9 hM_N_9
  have hI_N_9 : Inv false N_9 := Inv.u hI_N_8 hM_N_9 hk_c0 (a := (-2147483648)) (b := 2147483647) rfl rfl rfl (by omega)
  have hF_N_9 : Fr f_e_X1_take M N_9 := Fr.u hF_N_8 hM_N_9 hk_c0 rfl
  have hX_N_9 : XX N_9 := XX.st hX_N_8 hI_N_8 hM_N_9 hk_c0 rfl
  refine kx_aload_n 34 F 0 dX1_take_33 rfl rfl rfl ?_
  refine kx_iconst 35 F dX1_take_34 rfl ?_
  refine kx_puti 38 F fw_X1_51 rfl hk_c0 rfl rfl (j := 7) rfl dX1_take_35 rfl ?_
  intro N_10 hM_N_10
  have hI_N_10 : Inv false N_10 := Inv.u hI_N_9 hM_N_10 hk_c0 (a := 0) (b := 900) rfl rfl rfl (by omega)
  have hF_N_10 : Fr f_e_X1_take M N_10 := Fr.u hF_N_9 hM_N_10 hk_c0 rfl
  have hX_N_10 : XX N_10 := XX.st hX_N_9 hI_N_9 hM_N_10 hk_c0 rfl
  refine kx_aload_n 39 F 0 dX1_take_38 rfl rfl rfl ?_
  refine kx_iconst 40 F dX1_take_39 rfl ?_
  refine kx_puti 43 F fw_X1_54 rfl hk_c0 rfl rfl (j := 8) rfl dX1_take_40 rfl ?_
  intro N_11 hM_N_11
  have hI_N_11 : Inv false N_11 := Inv.u hI_N_10 hM_N_11 hk_c0 (a := 0) (b := 900) rfl rfl rfl (by omega)
  have hF_N_11 : Fr f_e_X1_take M N_11 := Fr.u hF_N_10 hM_N_11 hk_c0 rfl
  have hX_N_11 : XX N_11 := XX.st hX_N_10 hI_N_10 hM_N_11 hk_c0 rfl
  refine kx_iconst 44 F dX1_take_43 rfl ?_
  refine kx_istore_n 45 F 2 (lo' := [some (vR G c0), some (vI a1), some (vI 1), none]) dX1_take_44 rfl (by decide) rfl rfl rfl ?_
  refine kx_iconst 46 F dX1_take_45 rfl ?_
  refine kx_istore_n 47 F 3 (lo' := [some (vR G c0), some (vI a1), some (vI 1), some (vI 0)]) dX1_take_46 rfl (by decide) rfl rfl rfl ?_
  have L_209 : ∀ (n_210 : Nat) (x2_206 : Int) (x3_207 : Int) (N_208 : Mem), Inv false N_208 → Fr f_e_X1_take M N_208 → XX N_208 → 0 ≤ x2_206 ∧ x2_206 ≤ 1 ∧ 0 ≤ x3_207 ∧ x3_207 ≤ 901 ∧ (N_208 c0 7) + (N_208 c0 8) ≤ 900 ∧ (N_208 c0 1) = 0 → (901 - (x3_207)).toNat = n_210 → KJ false G X N_208 47 [some (vR G c0), none, some (vI x2_206), some (vI x3_207)] [] := by
    intro n_210
    refine Nat.strongRecOn n_210 ?_
    intro n_210 ih_211 x2_206 x3_207 N_208 hI_N_208 hF_N_208 hX_N_208 h_212 hm_213
    refine kx_iload_n 48 F 3 dX1_take_47 rfl rfl rfl ?_
    refine kx_aload_n 49 F 0 dX1_take_48 rfl rfl rfl ?_
    refine kx_geti 52 F fl_X1_45 hk_c0 rfl rfl (j := 5) rfl dX1_take_49 (v := (N_208 c0 5)) rfl rfl ?_
    have h_214 := Inv.g hI_N_208 hk_c0 rfl 5 (a := 0) (b := 900) rfl rfl
    refine kx_icmp_gt 55 F 100 dX1_take_52 (by decide) rfl (by omega) (by omega) (fun h_215 => ?_) (fun h_215 => ?_)
    · refine kx_iload_n 101 F 2 dX1_take_100 rfl rfl rfl ?_
      have h_216 := Inv.g hI_N_208 hk_c0 rfl 1 (a := 0) (b := 900) rfl rfl
      exact kx_zret F hQ (by omega) ⟨hI_N_208, hF_N_208, (by omega), hX_N_208⟩ dX1_take_101
    · refine kx_iload_n 56 F 2 dX1_take_55 rfl rfl rfl ?_
      refine kx_if_eq 59 F 100 dX1_take_56 (by decide) rfl (by omega) (fun h_217 => ?_) (fun h_217 => ?_)
      · refine kx_iload_n 101 F 2 dX1_take_100 rfl rfl rfl ?_
        have h_218 := Inv.g hI_N_208 hk_c0 rfl 1 (a := 0) (b := 900) rfl rfl
        exact kx_zret F hQ (by omega) ⟨hI_N_208, hF_N_208, (by omega), hX_N_208⟩ dX1_take_101
      · refine kx_aload_n 60 F 0 dX1_take_59 rfl rfl rfl ?_
        have h_219 := Inv.g hI_N_208 hk_c0 rfl 7 (a := 0) (b := 900) rfl rfl
        have h_220 := Inv.g hI_N_208 hk_c0 rfl 8 (a := 0) (b := 900) rfl rfl
        refine kx_Vi 63 (ci := 0) F (As := []) (st := []) vd_X1_57 (c_X1_advance G l N_208 c0 hI_N_208 hk_c0 (by omega)) hk_c0 rfl rfl rfl ⟨by decide, by decide⟩ rfl rfl (Nat.le_of_ble_eq_true rfl) dX1_take_60 rfl ?_
        intro r_221 N_222 q_223
        obtain ⟨hI_N_222, hG_N_222, q_223c⟩ := q_223
        have hF_N_222 : Fr f_e_X1_take M N_222 := Fr.c hF_N_208 hG_N_222 rfl
        have hX_N_222 : XX N_222 := XX.fr hX_N_208 hI_N_208 hG_N_222 rfl
        have h_224 := Inv.g hI_N_222 hk_c0 rfl 7 (a := 0) (b := 900) rfl rfl
        have h_225 := Inv.g hI_N_222 hk_c0 rfl 8 (a := 0) (b := 900) rfl rfl
        refine kx_istore_n 64 F 2 (lo' := [some (vR G c0), none, some (vI r_221), some (vI x3_207)]) dX1_take_63 rfl (by decide) rfl rfl rfl ?_
        refine kx_iload_n 65 F 2 dX1_take_64 rfl rfl rfl ?_
        have J_231 : (N_222 c0 7) + (N_222 c0 8) ≤ 900 ∧ (N_222 c0 1) = 0 → KJ false G X N_222 77 [some (vR G c0), none, some (vI r_221), some (vI x3_207)] [] := by
          intro h_232
          refine kx_iload_n 78 F 2 dX1_take_77 rfl rfl rfl ?_
          have J_249 : ∀ (y0_247 : Int) (N_248 : Mem), Inv false N_248 → Fr f_e_X1_take M N_248 → XX N_248 → 0 ≤ y0_247 ∧ y0_247 ≤ 1 ∧ (N_248 c0 7) + (N_248 c0 8) ≤ 900 ∧ (N_248 c0 1) = 0 → KJ false G X N_248 93 [some (vR G c0), none, none, some (vI x3_207)] [vI y0_247] := by
            intro y0_247 N_248 hI_N_248 hF_N_248 hX_N_248 h_250
            refine kx_istore_n 94 F 2 (lo' := [some (vR G c0), none, some (vI y0_247), some (vI x3_207)]) dX1_take_93 rfl (by decide) rfl rfl rfl ?_
            refine kx_iinc 97 F 3 (v := x3_207 + 1) (lo' := [some (vR G c0), none, some (vI y0_247), some (vI (x3_207 + 1))]) dX1_take_94 rfl (by omega) (by decide) rfl rfl rfl ?_
            refine kx_goto 47 F dX1_take_97 (by decide) ?_
            have h_251 := Inv.g hI_N_248 hk_c0 rfl 7 (a := 0) (b := 900) rfl rfl
            have h_252 := Inv.g hI_N_248 hk_c0 rfl 8 (a := 0) (b := 900) rfl rfl
            have h_253 := Inv.g hI_N_248 hk_c0 rfl 1 (a := 0) (b := 900) rfl rfl
            exact ih_211 _ (by omega) y0_247 (x3_207 + 1) N_248 hI_N_248 hF_N_248 hX_N_248 (by omega) rfl
          have J_262 : ∀ (N_261 : Mem), Inv false N_261 → Fr f_e_X1_take M N_261 → XX N_261 → (N_261 c0 7) + (N_261 c0 8) ≤ 900 ∧ (N_261 c0 1) = 0 → KJ false G X N_261 92 [some (vR G c0), none, none, some (vI x3_207)] [] := by
            intro N_261 hI_N_261 hF_N_261 hX_N_261 h_263
            refine kx_iconst 93 F dX1_take_92 rfl ?_
            have h_264 := Inv.g hI_N_261 hk_c0 rfl 7 (a := 0) (b := 900) rfl rfl
            have h_265 := Inv.g hI_N_261 hk_c0 rfl 8 (a := 0) (b := 900) rfl rfl
            have h_266 := Inv.g hI_N_261 hk_c0 rfl 1 (a := 0) (b := 900) rfl rfl
            exact J_249 0 N_261 hI_N_261 hF_N_261 hX_N_261 (by omega)
          refine kx_if_eq 81 F 92 dX1_take_78 (by decide) rfl (by omega) (fun h_267 => ?_) (fun h_267 => ?_)
          · refine kx_drop 2 (lo' := [some (vR G c0), none, none, some (vI x3_207)]) rfl ?_
            have e_268 : (N_222 c0 1) = (N_208 c0 1) := by rw [Fr.e hG_N_222 hk_c0 _ rfl]
            have h_269 := Inv.g hI_N_208 hk_c0 rfl 1 (a := 0) (b := 900) rfl rfl
            exact J_262 N_222 hI_N_222 hF_N_222 hX_N_222 (by omega)
          · refine kx_aload_n 82 F 0 dX1_take_81 rfl rfl rfl ?_
            refine kx_Vi 85 (ci := 0) F (As := []) (st := []) vd_X1_64 (c_X1_takePart G l N_222 c0 hI_N_222 hk_c0 (by omega) hX_N_222) hk_c0 rfl rfl rfl ⟨by decide, by decide⟩ rfl rfl (Nat.le_of_ble_eq_true rfl) dX1_take_82 rfl ?_
            intro r_270 N_271 q_272
            obtain ⟨hI_N_271, hG_N_271, q_272c, hX_N_271⟩ := q_272
            have hF_N_271 : Fr f_e_X1_take M N_271 := Fr.c hF_N_222 hG_N_271 rfl
            have h_273 := Inv.g hI_N_271 hk_c0 rfl 7 (a := 0) (b := 900) rfl rfl
            have h_274 := Inv.g hI_N_271 hk_c0 rfl 8 (a := 0) (b := 900) rfl rfl
            refine kx_if_eq 88 F 92 dX1_take_85 (by decide) rfl (by omega) (fun h_275 => ?_) (fun h_275 => ?_)
            · refine kx_drop 2 (lo' := [some (vR G c0), none, none, some (vI x3_207)]) rfl ?_
              have e_276 : (N_271 c0 1) = (N_208 c0 1) := by rw [Fr.e hG_N_271 hk_c0 _ rfl, Fr.e hG_N_222 hk_c0 _ rfl]
              have h_277 := Inv.g hI_N_208 hk_c0 rfl 1 (a := 0) (b := 900) rfl rfl
              exact J_262 N_271 hI_N_271 hF_N_271 hX_N_271 (by omega)
            · refine kx_iconst 89 F dX1_take_88 rfl ?_
              refine kx_goto 93 F dX1_take_89 (by decide) ?_
              refine kx_drop 2 (lo' := [some (vR G c0), none, none, some (vI x3_207)]) rfl ?_
              have e_278 : (N_271 c0 1) = (N_208 c0 1) := by rw [Fr.e hG_N_271 hk_c0 _ rfl, Fr.e hG_N_222 hk_c0 _ rfl]
              have h_279 := Inv.g hI_N_208 hk_c0 rfl 1 (a := 0) (b := 900) rfl rfl
              exact J_249 1 N_271 hI_N_271 hF_N_271 hX_N_271 (by omega)
        refine kx_if_eq 68 F 77 dX1_take_65 (by decide) rfl (by omega) (fun h_280 => ?_) (fun h_280 => ?_)
        · have e_281 : (N_222 c0 1) = (N_208 c0 1) := by rw [Fr.e hG_N_222 hk_c0 _ rfl]
          have h_282 := Inv.g hI_N_208 hk_c0 rfl 1 (a := 0) (b := 900) rfl rfl
          exact J_231 (by omega)
        · refine kx_aload_n 69 F 0 dX1_take_68 rfl rfl rfl ?_
          refine kx_geti 72 F fl_X1_61 hk_c0 rfl rfl (j := 6) rfl dX1_take_69 (v := (N_222 c0 6)) rfl rfl ?_
          have h_283 := Inv.g hI_N_222 hk_c0 rfl 6 (a := 0) (b := 5) rfl rfl
          refine kx_if_ne 75 F 77 dX1_take_72 (by decide) rfl (by omega) (fun h_284 => ?_) (fun h_284 => ?_)
          · have e_285 : (N_222 c0 1) = (N_208 c0 1) := by rw [Fr.e hG_N_222 hk_c0 _ rfl]
            have h_286 := Inv.g hI_N_208 hk_c0 rfl 1 (a := 0) (b := 900) rfl rfl
            exact J_231 (by omega)
          · refine kx_iconst 76 F dX1_take_75 rfl ?_
            have e_287 : (N_222 c0 1) = (N_208 c0 1) := by rw [Fr.e hG_N_222 hk_c0 _ rfl]
            have h_288 := Inv.g hI_N_208 hk_c0 rfl 1 (a := 0) (b := 900) rfl rfl
            exact kx_zret F hQ (by omega) ⟨hI_N_222, hF_N_222, (by omega), hX_N_222⟩ dX1_take_76
  refine kx_drop 1 (lo' := [some (vR G c0), none, some (vI 1), some (vI 0)]) rfl ?_
  have e_289 : (N_11 c0 7) = 0 := by rw [hM_N_11, mu_i (by omega), hM_N_10, mu_s]
  have e_290 : (N_11 c0 8) = 0 := by rw [hM_N_11, mu_s]
  have e_291 : (N_11 c0 1) = 0 := by rw [hM_N_11, mu_i (by omega), hM_N_10, mu_i (by omega), hM_N_9, mu_i (by omega), hM_N_8, mu_i (by omega), Fr.e hG_N_6 hk_c0 _ rfl, hM_N_4, mu_s]
  exact L_209 _ 1 0 N_11 hI_N_11 hF_N_11 hX_N_11 (by omega) rfl
abbrev f_e_X11_checker : List (Nat × Int) := [(1, 0), (1, 1), (1, 2), (1, 3), (1, 4), (1, 5), (2, -1), (3, -1), (4, -1), (5, -1), (6, -1), (7, -1), (8, 0), (12, 0), (12, 1), (12, 2), (12, 3), (17, 0), (17, 1), (17, 2), (17, 3), (17, 5), (17, 6), (17, 7), (17, 8), (17, 9), (19, -1), (20, -1), (21, 0), (41, 2), (62, 0), (62, 5)]
set_option maxHeartbeats 4000000 in
set_option maxRecDepth 100000 in
theorem e_X11_checker (G : KG) (l : Launch) (M : Mem) (c0 : Int) (a1 : Int) (hI_M : Inv false M) (hk_c0 : kd c0 = 62) (hpre : -2147483648 ≤ a1 ∧ a1 ≤ 2147483647) (hX_M : XX M) : KC false G l yX11_checker cX11_checker 3 (some .int) (10, 218) [vR G c0, vI a1] M (fun A => kQi false G A (fun (r : Int) (N : Mem) => Inv false N ∧ Fr f_e_X11_checker M N ∧ ((a1 < 0 ∧ (N (M c0 4) 1) = (M (M c0 4) 1)) ∨ (a1 > (M (M c0 4) 1) ∧ (N (M c0 4) 1) = (M (M c0 4) 1)) ∨ (a1 ≥ 0 ∧ a1 ≤ (M (M c0 4) 1) ∧ (N (M c0 4) 1) = 0)) ∧ XX N)) := by
  refine kx_met (lo := [some (vR G c0), some (vI a1), none]) (by decide) (Nat.le_of_ble_eq_true rfl) rfl ?_
  intro X F hQ
  have hF_M : Fr f_e_X11_checker M M := Fr.rf _ _
  have hk_Mc04 : kd (M c0 4) = 17 := Inv.r hI_M hk_c0 rfl 4 rfl rfl
  have h_1 := Inv.g hI_M hk_Mc04 rfl 1 (a := 0) (b := 900) rfl rfl
  refine kx_iload_n 1 F 1 dX11_checker_0 rfl rfl rfl ?_
  refine kx_if_lt 4 F 15 dX11_checker_1 (by decide) rfl (by omega) (fun h_2 => ?_) (fun h_2 => ?_)
  · refine kx_aload_n 16 F 0 dX11_checker_15 rfl rfl rfl ?_
    refine kx_iconst 17 F dX11_checker_16 rfl ?_
    refine kx_Vi 20 (ci := 0) F (As := [vI 1]) (st := []) vd_X11_110 (c_X11_refuse G l M c0 1 hI_M hk_c0 (by omega)) hk_c0 rfl rfl rfl ⟨by decide, by decide⟩ rfl rfl (Nat.le_of_ble_eq_true rfl) dX11_checker_17 rfl ?_
    intro r_3 N_4 q_5
    obtain ⟨hI_N_4, hG_N_4, q_5c⟩ := q_5
    have hF_N_4 : Fr f_e_X11_checker M N_4 := Fr.c hF_M hG_N_4 rfl
    have hX_N_4 : XX N_4 := XX.fr hX_M hI_M hG_N_4 rfl
    subst q_5c
    have e_6 : (N_4 (M c0 4) 1) = (M (M c0 4) 1) := by rw [Fr.e hG_N_4 hk_Mc04 _ rfl]
    have e_7 : (N_4 (M c0 4) 1) = (M (M c0 4) 1) := by rw [Fr.e hG_N_4 hk_Mc04 _ rfl]
    have e_8 : (N_4 (M c0 4) 1) = (M (M c0 4) 1) := by rw [Fr.e hG_N_4 hk_Mc04 _ rfl]
    exact kx_iret F hQ ⟨hI_N_4, hF_N_4, (Or.inl (by omega)), hX_N_4⟩ dX11_checker_20
  · refine kx_iload_n 5 F 1 dX11_checker_4 rfl rfl rfl ?_
    refine kx_aload_n 6 F 0 dX11_checker_5 rfl rfl rfl ?_
    refine kx_getr 9 F fl_X11_19 hk_c0 rfl rfl (j := 4) rfl dX11_checker_6 (v := (M c0 4)) rfl rfl ?_
    refine kx_geti 12 F fl_X11_126 hk_Mc04 rfl rfl (j := 1) rfl dX11_checker_9 (v := (M (M c0 4) 1)) rfl rfl ?_
    refine kx_icmp_le 15 F 21 dX11_checker_12 (by decide) rfl (by omega) (by omega) (fun h_9 => ?_) (fun h_9 => ?_)
    · refine kx_aload_n 22 F 0 dX11_checker_21 rfl rfl rfl ?_
      refine kx_getr 25 F fl_X11_19 hk_c0 rfl rfl (j := 4) rfl dX11_checker_22 (v := (M c0 4)) rfl rfl ?_
      refine kx_iload_n 26 F 1 dX11_checker_25 rfl rfl rfl ?_
      refine kx_Vi 29 (ci := 0) F (As := [vI a1]) (st := []) vd_X11_133 (e_X1_take G l M (M c0 4) a1 hI_M hk_Mc04 (by omega) hX_M) hk_Mc04 rfl rfl rfl ⟨by decide, by decide⟩ rfl rfl (Nat.le_of_ble_eq_true rfl) dX11_checker_26 rfl ?_
      intro r_10 N_11 q_12
      obtain ⟨hI_N_11, hG_N_11, q_12c, hX_N_11⟩ := q_12
      have hF_N_11 : Fr f_e_X11_checker M N_11 := Fr.c hF_M hG_N_11 rfl
      have h_13 := Inv.g hI_N_11 hk_Mc04 rfl 1 (a := 0) (b := 900) rfl rfl
      refine kx_if_ne 32 F 39 dX11_checker_29 (by decide) rfl (by omega) (fun h_14 => ?_) (fun h_14 => ?_)
      · refine kx_aload_n 40 F 0 dX11_checker_39 rfl rfl rfl ?_
        refine kx_getr 43 F fl_X11_26 hk_c0 rfl rfl (j := 5) rfl dX11_checker_40 (v := (M c0 5)) (by rw [Fr.e hG_N_11 hk_c0 _ rfl]) rfl ?_
        have hk_15 : kd (M c0 5) = 12 := Inv.r hI_M hk_c0 rfl 5 rfl rfl
        refine kx_astore_n 44 F 2 (lo' := [some (vR G c0), some (vI a1), some (vR G (M c0 5))]) dX11_checker_43 rfl (by decide) rfl rfl rfl ?_
        refine kx_aload_n 45 F 0 dX11_checker_44 rfl rfl rfl ?_
        refine kx_aload_n 46 F 0 dX11_checker_45 rfl rfl rfl ?_
        refine kx_getr 49 F fl_X11_19 hk_c0 rfl rfl (j := 4) rfl dX11_checker_46 (v := (M c0 4)) (by rw [Fr.e hG_N_11 hk_c0 _ rfl]) rfl ?_
        refine kx_getr 52 F fl_X11_136 hk_Mc04 rfl rfl (j := 0) rfl dX11_checker_49 (v := (M (M c0 4) 0)) (by rw [Fr.e hG_N_11 hk_Mc04 _ rfl]) rfl ?_
        have hk_16 : kd (M (M c0 4) 0) = 12 := Inv.r hI_M hk_Mc04 rfl 0 rfl rfl
        refine kx_putr 55 F fw_X11_26 (Or.inl ⟨_, rfl⟩) hk_c0 rfl rfl (j := 5) rfl dX11_checker_52 rfl ?_
        intro N_17 hM_N_17
        have hI_N_17 : Inv false N_17 := Inv.ur hI_N_11 hM_N_17 hk_c0 rfl rfl rfl hk_16 rfl rfl rfl
        have hF_N_17 : Fr f_e_X11_checker M N_17 := Fr.u hF_N_11 hM_N_17 hk_c0 rfl
        have hX_N_17 : XX N_17 := XX.st hX_N_11 hI_N_11 hM_N_17 hk_c0 rfl
        refine kx_aload_n 56 F 0 dX11_checker_55 rfl rfl rfl ?_
        refine kx_getr 59 F fl_X11_19 hk_c0 rfl rfl (j := 4) rfl dX11_checker_56 (v := (M c0 4)) (by rw [hM_N_17, mu_i (by omega), Fr.e hG_N_11 hk_c0 _ rfl]) rfl ?_
        refine kx_aload_n 60 F 2 dX11_checker_59 rfl rfl rfl ?_
        refine kx_putr 63 F fw_X11_136 (Or.inl ⟨_, rfl⟩) hk_Mc04 rfl rfl (j := 0) rfl dX11_checker_60 rfl ?_
        intro N_18 hM_N_18
        have hI_N_18 : Inv false N_18 := Inv.ur hI_N_17 hM_N_18 hk_Mc04 rfl rfl rfl hk_15 rfl rfl rfl
        have hF_N_18 : Fr f_e_X11_checker M N_18 := Fr.u hF_N_17 hM_N_18 hk_Mc04 rfl
        have hX_N_18 : XX N_18 := XX.st hX_N_17 hI_N_17 hM_N_18 hk_Mc04 rfl
        refine kx_aload_n 64 F 0 dX11_checker_63 rfl rfl rfl ?_
        refine kx_Vv 67 (ci := 0) F (As := []) (st := []) vd_X11_139 (c_X11_forget G l N_18 c0 hI_N_18 hk_c0) hk_c0 rfl rfl rfl ⟨by decide, by decide⟩ rfl rfl (Nat.le_of_ble_eq_true rfl) dX11_checker_64 rfl ?_
        intro N_19 q_20
        obtain ⟨hI_N_19, hG_N_19⟩ := q_20
        have hF_N_19 : Fr f_e_X11_checker M N_19 := Fr.c hF_N_18 hG_N_19 rfl
        have hX_N_19 : XX N_19 := XX.fr hX_N_18 hI_N_18 hG_N_19 rfl
        refine kx_aload_n 68 F 0 dX11_checker_67 rfl rfl rfl ?_
        refine kx_aload_n 69 F 0 dX11_checker_68 rfl rfl rfl ?_
        refine kx_getr 72 F fl_X11_26 hk_c0 rfl rfl (j := 5) rfl dX11_checker_69 (v := (M (M c0 4) 0)) (by rw [Fr.e hG_N_19 hk_c0 _ rfl, hM_N_18, mu_k hk_c0 hk_Mc04 rfl, hM_N_17, mu_s]) rfl ?_
        refine kx_geti 75 F fl_X11_142 hk_16 rfl rfl (j := 3) rfl dX11_checker_72 (v := (N_11 (M (M c0 4) 0) 3)) (by rw [Fr.e hG_N_19 hk_16 _ rfl, hM_N_18, mu_k hk_16 hk_Mc04 rfl, hM_N_17, mu_k hk_16 hk_c0 rfl]) rfl ?_
        have h_21 := Inv.g hI_N_11 hk_16 rfl 3 (a := 0) (b := 2) rfl rfl
        refine kx_Vi 78 (ci := 0) F (As := [vI (N_11 (M (M c0 4) 0) 3)]) (st := []) vd_X11_145 (c_X11_answer G l N_19 c0 (N_11 (M (M c0 4) 0) 3) hI_N_19 hk_c0 (by omega)) hk_c0 rfl rfl rfl ⟨by decide, by decide⟩ rfl rfl (Nat.le_of_ble_eq_true rfl) dX11_checker_75 rfl ?_
        intro r_22 N_23 q_24
        obtain ⟨hI_N_23, hG_N_23, q_24c⟩ := q_24
        have hF_N_23 : Fr f_e_X11_checker M N_23 := Fr.c hF_N_19 hG_N_23 rfl
        have hX_N_23 : XX N_23 := XX.fr hX_N_19 hI_N_19 hG_N_23 rfl
        have e_25 : (N_23 (M c0 4) 1) = (N_11 (M c0 4) 1) := by rw [Fr.e hG_N_23 hk_Mc04 _ rfl, Fr.e hG_N_19 hk_Mc04 _ rfl, hM_N_18, mu_i (by omega), hM_N_17, mu_k hk_Mc04 hk_c0 rfl]
        have e_26 : (N_23 (M c0 4) 1) = (N_11 (M c0 4) 1) := by rw [Fr.e hG_N_23 hk_Mc04 _ rfl, Fr.e hG_N_19 hk_Mc04 _ rfl, hM_N_18, mu_i (by omega), hM_N_17, mu_k hk_Mc04 hk_c0 rfl]
        have e_27 : (N_23 (M c0 4) 1) = (N_11 (M c0 4) 1) := by rw [Fr.e hG_N_23 hk_Mc04 _ rfl, Fr.e hG_N_19 hk_Mc04 _ rfl, hM_N_18, mu_i (by omega), hM_N_17, mu_k hk_Mc04 hk_c0 rfl]
        exact kx_iret F hQ ⟨hI_N_23, hF_N_23, (Or.inr (Or.inr (by omega))), hX_N_23⟩ dX11_checker_78
      · refine kx_aload_n 33 F 0 dX11_checker_32 rfl rfl rfl ?_
        refine kx_bipush 35 F dX11_checker_33 (by decide) rfl ?_
        refine kx_Vi 38 (ci := 0) F (As := [vI 9]) (st := []) vd_X11_110 (c_X11_refuse G l N_11 c0 9 hI_N_11 hk_c0 (by omega)) hk_c0 rfl rfl rfl ⟨by decide, by decide⟩ rfl rfl (Nat.le_of_ble_eq_true rfl) dX11_checker_35 rfl ?_
        intro r_28 N_29 q_30
        obtain ⟨hI_N_29, hG_N_29, q_30c⟩ := q_30
        have hF_N_29 : Fr f_e_X11_checker M N_29 := Fr.c hF_N_11 hG_N_29 rfl
        have hX_N_29 : XX N_29 := XX.fr hX_N_11 hI_N_11 hG_N_29 rfl
        subst q_30c
        have e_31 : (N_29 (M c0 4) 1) = (N_11 (M c0 4) 1) := by rw [Fr.e hG_N_29 hk_Mc04 _ rfl]
        have e_32 : (N_29 (M c0 4) 1) = (N_11 (M c0 4) 1) := by rw [Fr.e hG_N_29 hk_Mc04 _ rfl]
        have e_33 : (N_29 (M c0 4) 1) = (N_11 (M c0 4) 1) := by rw [Fr.e hG_N_29 hk_Mc04 _ rfl]
        exact kx_iret F hQ ⟨hI_N_29, hF_N_29, (Or.inr (Or.inr (by omega))), hX_N_29⟩ dX11_checker_38
    · refine kx_aload_n 16 F 0 dX11_checker_15 rfl rfl rfl ?_
      refine kx_iconst 17 F dX11_checker_16 rfl ?_
      refine kx_Vi 20 (ci := 0) F (As := [vI 1]) (st := []) vd_X11_110 (c_X11_refuse G l M c0 1 hI_M hk_c0 (by omega)) hk_c0 rfl rfl rfl ⟨by decide, by decide⟩ rfl rfl (Nat.le_of_ble_eq_true rfl) dX11_checker_17 rfl ?_
      intro r_34 N_35 q_36
      obtain ⟨hI_N_35, hG_N_35, q_36c⟩ := q_36
      have hF_N_35 : Fr f_e_X11_checker M N_35 := Fr.c hF_M hG_N_35 rfl
      have hX_N_35 : XX N_35 := XX.fr hX_M hI_M hG_N_35 rfl
      subst q_36c
      have e_37 : (N_35 (M c0 4) 1) = (M (M c0 4) 1) := by rw [Fr.e hG_N_35 hk_Mc04 _ rfl]
      have e_38 : (N_35 (M c0 4) 1) = (M (M c0 4) 1) := by rw [Fr.e hG_N_35 hk_Mc04 _ rfl]
      have e_39 : (N_35 (M c0 4) 1) = (M (M c0 4) 1) := by rw [Fr.e hG_N_35 hk_Mc04 _ rfl]
      exact kx_iret F hQ ⟨hI_N_35, hF_N_35, (Or.inr (Or.inl (by omega))), hX_N_35⟩ dX11_checker_20
set_option maxHeartbeats 4000000 in
set_option maxRecDepth 100000 in
theorem e_X12_isTray (G : KG) (l : Launch) (M : Mem) (a0 : Int) (hI_M : Inv true M) (hpre : -2147483648 ≤ a0 ∧ a0 ≤ 2147483647) : KC true G l yX12_isTray cX12_isTray 1 (some .boolean) (0, 0) [vI a0] M (fun A => kQi true G A (fun (r : Int) (N : Mem) => M = N ∧ ((r = 1 ∧ 0 ≤ a0 ∧ a0 ≤ 3) ∨ (r = 0 ∧ a0 < 0) ∨ (r = 0 ∧ a0 > 3)))) := by
  refine kx_met (lo := [some (vI a0)]) (by decide) (Nat.le_of_ble_eq_true rfl) rfl ?_
  intro X F hQ
  refine kx_iload_n 1 F 0 dX12_isTray_0 rfl rfl rfl ?_
  refine kx_if_lt 4 F 13 dX12_isTray_1 (by decide) rfl (by omega) (fun h_1 => ?_) (fun h_1 => ?_)
  · refine kx_iconst 14 F dX12_isTray_13 rfl ?_
    exact kx_zret F hQ (by omega) ⟨rfl, (Or.inr (Or.inl (by omega)))⟩ dX12_isTray_14
  · refine kx_iload_n 5 F 0 dX12_isTray_4 rfl rfl rfl ?_
    refine kx_iconst 6 F dX12_isTray_5 rfl ?_
    refine kx_icmp_ge 9 F 13 dX12_isTray_6 (by decide) rfl (by omega) (by decide) (fun h_2 => ?_) (fun h_2 => ?_)
    · refine kx_iconst 14 F dX12_isTray_13 rfl ?_
      exact kx_zret F hQ (by omega) ⟨rfl, (Or.inr (Or.inr (by omega)))⟩ dX12_isTray_14
    · refine kx_iconst 10 F dX12_isTray_9 rfl ?_
      refine kx_goto 14 F dX12_isTray_10 (by decide) ?_
      exact kx_zret F hQ (by omega) ⟨rfl, (Or.inl (by omega))⟩ dX12_isTray_14
set_option maxHeartbeats 4000000 in
set_option maxRecDepth 100000 in
theorem e_X12_wrongPlace (G : KG) (l : Launch) (M : Mem) (a1 : Int) (a2 : Int) (hI_M : Inv true M) (hpre : -2147483648 ≤ a1 ∧ a1 ≤ 2147483647 ∧ -2147483648 ≤ a2 ∧ a2 ≤ 2147483647) : KC true G l yX12_wrongPlace cX12_wrongPlace 3 (some .int) (1, 20) [vR G 163, vI a1, vI a2] M (fun A => kQi true G A (fun (r : Int) (N : Mem) => M = N ∧ ((r = 0 ∧ 0 ≤ a1 ∧ a1 ≤ 3 ∧ 0 ≤ a2 ∧ a2 < (M 167 a1) ∧ a2 ≤ 59) ∨ (r ≥ 1 ∧ r ≤ 3 ∧ a1 < 0) ∨ (r ≥ 1 ∧ r ≤ 3 ∧ a1 > 3) ∨ (r ≥ 1 ∧ r ≤ 3 ∧ 0 ≤ a1 ∧ a1 ≤ 3 ∧ (M 167 a1) = -1) ∨ (r ≥ 1 ∧ r ≤ 3 ∧ 0 ≤ a1 ∧ a1 ≤ 3 ∧ a2 < 0) ∨ (r ≥ 1 ∧ r ≤ 3 ∧ 0 ≤ a1 ∧ a1 ≤ 3 ∧ a2 ≥ (M 167 a1))))) := by
  refine kx_met (lo := [some (vR G 163), some (vI a1), some (vI a2)]) (by decide) (Nat.le_of_ble_eq_true rfl) rfl ?_
  intro X F hQ
  refine kx_iload_n 1 F 1 dX12_wrongPlace_0 rfl rfl rfl ?_
  refine kx_Si 4 F (As := [vI a1]) (st := []) sd_X12_134 (e_X12_isTray G l M a1 hI_M (by omega)) ⟨by decide, by decide⟩ rfl rfl (Nat.le_of_ble_eq_true rfl) dX12_wrongPlace_1 rfl ?_
  intro r_1 N_2 q_3
  obtain ⟨rfl, q_3c⟩ := q_3
  rcases q_3c with q_3c | q_3c | q_3c
  · refine kx_if_ne 7 F 11 dX12_wrongPlace_4 (by decide) rfl (by omega) (fun h_4 => ?_) (fun h_4 => (by exfalso; omega))
    refine kx_aload_n 12 F 0 dX12_wrongPlace_11 rfl rfl rfl ?_
    refine kx_getr 15 F fl_X12_24 kd_163 rfl rfl (j := 6) rfl dX12_wrongPlace_12 (v := 167) (uq_167 (Inv.r hI_M kd_163 rfl 6 rfl rfl)) rfl ?_
    refine kx_iload_n 16 F 1 dX12_wrongPlace_15 rfl rfl rfl ?_
    refine kx_iald 17 F kd_167 rfl rfl (by omega) (by decide) dX12_wrongPlace_16 (v := (M 167 a1)) rfl rfl ?_
    have h_5 := Inv.g hI_M kd_167 rfl a1 (a := (-1)) (b := 60) rfl rfl
    refine kx_iconst 18 F dX12_wrongPlace_17 rfl ?_
    refine kx_icmp_ne 21 F 25 dX12_wrongPlace_18 (by decide) rfl (by omega) (by decide) (fun h_6 => ?_) (fun h_6 => ?_)
    · refine kx_iload_n 26 F 2 dX12_wrongPlace_25 rfl rfl rfl ?_
      refine kx_if_lt 29 F 39 dX12_wrongPlace_26 (by decide) rfl (by omega) (fun h_7 => ?_) (fun h_7 => ?_)
      · refine kx_iconst 40 F dX12_wrongPlace_39 rfl ?_
        refine kx_goto 44 F dX12_wrongPlace_40 (by decide) ?_
        exact kx_iret F hQ ⟨rfl, (Or.inr (Or.inr (Or.inr (Or.inr (Or.inl (by omega))))))⟩ dX12_wrongPlace_44
      · refine kx_iload_n 30 F 2 dX12_wrongPlace_29 rfl rfl rfl ?_
        refine kx_aload_n 31 F 0 dX12_wrongPlace_30 rfl rfl rfl ?_
        refine kx_getr 34 F fl_X12_24 kd_163 rfl rfl (j := 6) rfl dX12_wrongPlace_31 (v := 167) (uq_167 (Inv.r hI_M kd_163 rfl 6 rfl rfl)) rfl ?_
        refine kx_iload_n 35 F 1 dX12_wrongPlace_34 rfl rfl rfl ?_
        refine kx_iald 36 F kd_167 rfl rfl (by omega) (by decide) dX12_wrongPlace_35 (v := (M 167 a1)) rfl rfl ?_
        refine kx_icmp_lt 39 F 43 dX12_wrongPlace_36 (by decide) rfl (by omega) (by omega) (fun h_8 => ?_) (fun h_8 => ?_)
        · refine kx_iconst 44 F dX12_wrongPlace_43 rfl ?_
          exact kx_iret F hQ ⟨rfl, (Or.inl (by omega))⟩ dX12_wrongPlace_44
        · refine kx_iconst 40 F dX12_wrongPlace_39 rfl ?_
          refine kx_goto 44 F dX12_wrongPlace_40 (by decide) ?_
          exact kx_iret F hQ ⟨rfl, (Or.inr (Or.inr (Or.inr (Or.inr (Or.inr (by omega))))))⟩ dX12_wrongPlace_44
    · refine kx_iconst 22 F dX12_wrongPlace_21 rfl ?_
      refine kx_goto 44 F dX12_wrongPlace_22 (by decide) ?_
      exact kx_iret F hQ ⟨rfl, (Or.inr (Or.inr (Or.inr (Or.inl (by omega)))))⟩ dX12_wrongPlace_44
  · refine kx_if_ne 7 F 11 dX12_wrongPlace_4 (by decide) rfl (by omega) (fun h_9 => (by exfalso; omega)) (fun h_9 => ?_)
    refine kx_iconst 8 F dX12_wrongPlace_7 rfl ?_
    refine kx_goto 44 F dX12_wrongPlace_8 (by decide) ?_
    exact kx_iret F hQ ⟨rfl, (Or.inr (Or.inl (by omega)))⟩ dX12_wrongPlace_44
  · refine kx_if_ne 7 F 11 dX12_wrongPlace_4 (by decide) rfl (by omega) (fun h_10 => (by exfalso; omega)) (fun h_10 => ?_)
    refine kx_iconst 8 F dX12_wrongPlace_7 rfl ?_
    refine kx_goto 44 F dX12_wrongPlace_8 (by decide) ?_
    exact kx_iret F hQ ⟨rfl, (Or.inr (Or.inr (Or.inl (by omega))))⟩ dX12_wrongPlace_44
abbrev f_e_X12_tray : List (Nat × Int) := [(64, 2), (67, -1), (68, -1), (69, -1)]
set_option maxHeartbeats 4000000 in
set_option maxRecDepth 100000 in
theorem e_X12_tray (G : KG) (l : Launch) (M : Mem) (a1 : Int) (a2 : Int) (a3 : Int) (hI_M : Inv true M) (hpre : -2147483648 ≤ a1 ∧ a1 ≤ 2147483647 ∧ -2147483648 ≤ a2 ∧ a2 ≤ 2147483647 ∧ -2147483648 ≤ a3 ∧ a3 ≤ 2147483647) : KC true G l yX12_tray cX12_tray 5 (some .boolean) (1, 21) [vR G 163, vI a1, vI a2, vI a3] M (fun A => kQi true G A (fun (r : Int) (N : Mem) => Inv true N ∧ Fr f_e_X12_tray M N ∧ ((r = 1 ∧ 0 ≤ a1 ∧ a1 ≤ 3 ∧ 0 ≤ a2 ∧ a2 ≤ 3 ∧ 0 ≤ a3 ∧ a3 ≤ 60) ∨ (r = 0 ∧ a1 < 0) ∨ (r = 0 ∧ a1 > 3) ∨ (r = 0 ∧ a2 < 0) ∨ (r = 0 ∧ a2 > 3) ∨ (r = 0 ∧ a3 < 0) ∨ (r = 0 ∧ a3 > 60)) ∧ (UQ2 M N 167 166 a1 a2 a3 r))) := by
  refine kx_met (lo := [some (vR G 163), some (vI a1), some (vI a2), some (vI a3), none]) (by decide) (Nat.le_of_ble_eq_true rfl) rfl ?_
  intro X F hQ
  have hF_M : Fr f_e_X12_tray M M := Fr.rf _ _
  refine kx_iload_n 1 F 1 dX12_tray_0 rfl rfl rfl ?_
  refine kx_Si 4 F (As := [vI a1]) (st := []) sd_X12_134 (e_X12_isTray G l M a1 hI_M (by omega)) ⟨by decide, by decide⟩ rfl rfl (Nat.le_of_ble_eq_true rfl) dX12_tray_1 rfl ?_
  intro r_1 N_2 q_3
  obtain ⟨rfl, q_3c⟩ := q_3
  rcases q_3c with q_3c | q_3c | q_3c
  · refine kx_if_eq 7 F 26 dX12_tray_4 (by decide) rfl (by omega) (fun h_4 => (by exfalso; omega)) (fun h_4 => ?_)
    refine kx_iload_n 8 F 2 dX12_tray_7 rfl rfl rfl ?_
    refine kx_if_lt 11 F 26 dX12_tray_8 (by decide) rfl (by omega) (fun h_5 => ?_) (fun h_5 => ?_)
    · refine kx_aload_n 27 F 0 dX12_tray_26 rfl rfl rfl ?_
      refine kx_iconst 28 F dX12_tray_27 rfl ?_
      refine kx_Vi 31 (ci := 0) F (As := [vI 1]) (st := []) vd_X12_130 (c_X12_is G l M 1 hI_M (by omega)) kd_163 rfl rfl rfl ⟨by decide, by decide⟩ rfl rfl (Nat.le_of_ble_eq_true rfl) dX12_tray_28 rfl ?_
      intro r_6 N_7 q_8
      obtain ⟨hI_N_7, hG_N_7, q_8c⟩ := q_8
      have hF_N_7 : Fr f_e_X12_tray M N_7 := Fr.c hF_M hG_N_7 rfl
      rcases q_8c with q_8c | q_8c
      · exfalso; omega
      · exact kx_zret F hQ (by omega) ⟨hI_N_7, hF_N_7, (Or.inr (Or.inr (Or.inr (Or.inl (by omega))))), (Or.inr ⟨by omega, (Fr.fn hG_N_7 kd_167 rfl), (Fr.fn hG_N_7 kd_166 rfl)⟩)⟩ dX12_tray_31
    · refine kx_iload_n 12 F 2 dX12_tray_11 rfl rfl rfl ?_
      refine kx_iconst 13 F dX12_tray_12 rfl ?_
      refine kx_icmp_gt 16 F 26 dX12_tray_13 (by decide) rfl (by omega) (by decide) (fun h_9 => ?_) (fun h_9 => ?_)
      · refine kx_aload_n 27 F 0 dX12_tray_26 rfl rfl rfl ?_
        refine kx_iconst 28 F dX12_tray_27 rfl ?_
        refine kx_Vi 31 (ci := 0) F (As := [vI 1]) (st := []) vd_X12_130 (c_X12_is G l M 1 hI_M (by omega)) kd_163 rfl rfl rfl ⟨by decide, by decide⟩ rfl rfl (Nat.le_of_ble_eq_true rfl) dX12_tray_28 rfl ?_
        intro r_10 N_11 q_12
        obtain ⟨hI_N_11, hG_N_11, q_12c⟩ := q_12
        have hF_N_11 : Fr f_e_X12_tray M N_11 := Fr.c hF_M hG_N_11 rfl
        rcases q_12c with q_12c | q_12c
        · exfalso; omega
        · exact kx_zret F hQ (by omega) ⟨hI_N_11, hF_N_11, (Or.inr (Or.inr (Or.inr (Or.inr (Or.inl (by omega)))))), (Or.inr ⟨by omega, (Fr.fn hG_N_11 kd_167 rfl), (Fr.fn hG_N_11 kd_166 rfl)⟩)⟩ dX12_tray_31
      · refine kx_iload_n 17 F 3 dX12_tray_16 rfl rfl rfl ?_
        refine kx_if_lt 20 F 26 dX12_tray_17 (by decide) rfl (by omega) (fun h_13 => ?_) (fun h_13 => ?_)
        · refine kx_aload_n 27 F 0 dX12_tray_26 rfl rfl rfl ?_
          refine kx_iconst 28 F dX12_tray_27 rfl ?_
          refine kx_Vi 31 (ci := 0) F (As := [vI 1]) (st := []) vd_X12_130 (c_X12_is G l M 1 hI_M (by omega)) kd_163 rfl rfl rfl ⟨by decide, by decide⟩ rfl rfl (Nat.le_of_ble_eq_true rfl) dX12_tray_28 rfl ?_
          intro r_14 N_15 q_16
          obtain ⟨hI_N_15, hG_N_15, q_16c⟩ := q_16
          have hF_N_15 : Fr f_e_X12_tray M N_15 := Fr.c hF_M hG_N_15 rfl
          rcases q_16c with q_16c | q_16c
          · exfalso; omega
          · exact kx_zret F hQ (by omega) ⟨hI_N_15, hF_N_15, (Or.inr (Or.inr (Or.inr (Or.inr (Or.inr (Or.inl (by omega))))))), (Or.inr ⟨by omega, (Fr.fn hG_N_15 kd_167 rfl), (Fr.fn hG_N_15 kd_166 rfl)⟩)⟩ dX12_tray_31
        · refine kx_iload_n 21 F 3 dX12_tray_20 rfl rfl rfl ?_
          refine kx_bipush 23 F dX12_tray_21 (by decide) rfl ?_
          refine kx_icmp_le 26 F 32 dX12_tray_23 (by decide) rfl (by omega) (by decide) (fun h_17 => ?_) (fun h_17 => ?_)
          · refine kx_aload_n 33 F 0 dX12_tray_32 rfl rfl rfl ?_
            refine kx_getr 36 F fl_X12_21 kd_163 rfl rfl (j := 5) rfl dX12_tray_33 (v := 166) (uq_166 (Inv.r hI_M kd_163 rfl 5 rfl rfl)) rfl ?_
            refine kx_iload_n 37 F 1 dX12_tray_36 rfl rfl rfl ?_
            refine kx_iload_n 38 F 2 dX12_tray_37 rfl rfl rfl ?_
            refine kx_iast 39 F kd_166 rfl rfl (by omega) (by decide) dX12_tray_38 rfl ?_
            intro N_18 hM_N_18
            have hI_N_18 : Inv true N_18 := Inv.u hI_M hM_N_18 kd_166 (a := 0) (b := 3) rfl rfl rfl (by omega)
            have hF_N_18 : Fr f_e_X12_tray M N_18 := Fr.u hF_M hM_N_18 kd_166 rfl
            refine kx_aload_n 40 F 0 dX12_tray_39 rfl rfl rfl ?_
            refine kx_getr 43 F fl_X12_24 kd_163 rfl rfl (j := 6) rfl dX12_tray_40 (v := 167) (uq_167 (Inv.r hI_N_18 kd_163 rfl 6 rfl rfl)) rfl ?_
            refine kx_iload_n 44 F 1 dX12_tray_43 rfl rfl rfl ?_
            refine kx_iload_n 45 F 3 dX12_tray_44 rfl rfl rfl ?_
            refine kx_iast 46 F kd_167 rfl rfl (by omega) (by decide) dX12_tray_45 rfl ?_
            intro N_19 hM_N_19
            have hI_N_19 : Inv true N_19 := Inv.u hI_N_18 hM_N_19 kd_167 (a := (-1)) (b := 60) rfl rfl rfl (by omega)
            have hF_N_19 : Fr f_e_X12_tray M N_19 := Fr.u hF_N_18 hM_N_19 kd_167 rfl
            refine kx_iconst 47 F dX12_tray_46 rfl ?_
            refine kx_istore 49 F 4 (lo' := [some (vR G 163), some (vI a1), some (vI a2), some (vI a3), some (vI 0)]) dX12_tray_47 (by decide) rfl rfl rfl ?_
            have L_71 : ∀ (n_72 : Nat) (x4_69 : Int) (N_70 : Mem), Inv true N_70 → Fr f_e_X12_tray M N_70 → WP N_70 M 167 a1 a3 → WS N_70 M 166 a1 a2 → 0 ≤ x4_69 ∧ x4_69 ≤ 60 → (60 - (x4_69)).toNat = n_72 → KJ true G X N_70 49 [some (vR G 163), some (vI a1), none, some (vI a3), some (vI x4_69)] [] := by
              intro n_72
              refine Nat.strongRecOn n_72 ?_
              intro n_72 ih_73 x4_69 N_70 hI_N_70 hF_N_70 hp_76 hp_77 h_74 hm_75
              refine kx_iload 51 F 4 dX12_tray_49 rfl rfl ?_
              refine kx_iload_n 52 F 3 dX12_tray_51 rfl rfl rfl ?_
              refine kx_icmp_ge 55 F 74 dX12_tray_52 (by decide) rfl (by omega) (by omega) (fun h_78 => ?_) (fun h_78 => ?_)
              · refine kx_aload_n 75 F 0 dX12_tray_74 rfl rfl rfl ?_
                refine kx_iconst 76 F dX12_tray_75 rfl ?_
                refine kx_Vi 79 (ci := 0) F (As := [vI 0]) (st := []) vd_X12_130 (c_X12_is G l N_70 0 hI_N_70 (by omega)) kd_163 rfl rfl rfl ⟨by decide, by decide⟩ rfl rfl (Nat.le_of_ble_eq_true rfl) dX12_tray_76 rfl ?_
                intro r_79 N_80 q_81
                obtain ⟨hI_N_80, hG_N_80, q_81c⟩ := q_81
                have hF_N_80 : Fr f_e_X12_tray M N_80 := Fr.c hF_N_70 hG_N_80 rfl
                rcases q_81c with q_81c | q_81c
                · exact kx_zret F hQ (by omega) ⟨hI_N_80, hF_N_80, (Or.inl (by omega)), (Or.inl ⟨by omega, (UP.fr hp_76 hG_N_80 kd_167 rfl), (UP.fr hp_77 hG_N_80 kd_166 rfl)⟩)⟩ dX12_tray_79
                · exact kx_zret F hQ (by omega) ⟨hI_N_80, hF_N_80, (by omega), (Or.inr ⟨by omega, (by exfalso; omega), (by exfalso; omega)⟩)⟩ dX12_tray_79
              · refine kx_aload_n 56 F 0 dX12_tray_55 rfl rfl rfl ?_
                refine kx_getr 59 F fl_X12_27 kd_163 rfl rfl (j := 7) rfl dX12_tray_56 (v := 168) (uq_168 (Inv.r hI_N_70 kd_163 rfl 7 rfl rfl)) rfl ?_
                refine kx_bipush 61 F dX12_tray_59 (by decide) rfl ?_
                refine kx_iload_n 62 F 1 dX12_tray_61 rfl rfl rfl ?_
                refine kx_imul 63 F (v := 60 * a1) dX12_tray_62 (by omega) rfl ?_
                refine kx_iload 65 F 4 dX12_tray_63 rfl rfl ?_
                refine kx_iadd 66 F (v := 60 * a1 + x4_69) dX12_tray_65 rfl rfl ?_
                refine kx_lconst 67 (z := 0) F dX12_tray_66 (by decide) rfl ?_
                refine kx_last 68 F kd_168 rfl rfl (by omega) (by decide) dX12_tray_67 rfl ?_
                intro N_82 hM_N_82
                have hI_N_82 : Inv true N_82 := Inv.u hI_N_70 hM_N_82 kd_168 (a := (-9223372036854775808)) (b := 9223372036854775807) rfl rfl rfl (by omega)
                have hF_N_82 : Fr f_e_X12_tray M N_82 := Fr.u hF_N_70 hM_N_82 kd_168 rfl
                refine kx_iinc 71 F 4 (v := x4_69 + 1) (lo' := [some (vR G 163), some (vI a1), none, some (vI a3), some (vI (x4_69 + 1))]) dX12_tray_68 rfl (by omega) (by decide) rfl rfl rfl ?_
                refine kx_goto 49 F dX12_tray_71 (by decide) ?_
                exact ih_73 _ (by omega) (x4_69 + 1) N_82 hI_N_82 hF_N_82 (UP.ot hp_76 hM_N_82 kd_167 kd_168 rfl) (UP.ot hp_77 hM_N_82 kd_166 kd_168 rfl) (by omega) rfl
            refine kx_drop 2 (lo' := [some (vR G 163), some (vI a1), none, some (vI a3), some (vI 0)]) rfl ?_
            exact L_71 _ 0 N_19 hI_N_19 hF_N_19 (UP.af hM_N_18 hM_N_19 kd_167 kd_166 rfl) (UP.ot (UP.st hM_N_18) hM_N_19 kd_166 kd_167 rfl) (by omega) rfl
          · refine kx_aload_n 27 F 0 dX12_tray_26 rfl rfl rfl ?_
            refine kx_iconst 28 F dX12_tray_27 rfl ?_
            refine kx_Vi 31 (ci := 0) F (As := [vI 1]) (st := []) vd_X12_130 (c_X12_is G l M 1 hI_M (by omega)) kd_163 rfl rfl rfl ⟨by decide, by decide⟩ rfl rfl (Nat.le_of_ble_eq_true rfl) dX12_tray_28 rfl ?_
            intro r_83 N_84 q_85
            obtain ⟨hI_N_84, hG_N_84, q_85c⟩ := q_85
            have hF_N_84 : Fr f_e_X12_tray M N_84 := Fr.c hF_M hG_N_84 rfl
            rcases q_85c with q_85c | q_85c
            · exfalso; omega
            · exact kx_zret F hQ (by omega) ⟨hI_N_84, hF_N_84, (Or.inr (Or.inr (Or.inr (Or.inr (Or.inr (Or.inr (by omega))))))), (Or.inr ⟨by omega, (Fr.fn hG_N_84 kd_167 rfl), (Fr.fn hG_N_84 kd_166 rfl)⟩)⟩ dX12_tray_31
  · refine kx_if_eq 7 F 26 dX12_tray_4 (by decide) rfl (by omega) (fun h_86 => ?_) (fun h_86 => (by exfalso; omega))
    refine kx_aload_n 27 F 0 dX12_tray_26 rfl rfl rfl ?_
    refine kx_iconst 28 F dX12_tray_27 rfl ?_
    refine kx_Vi 31 (ci := 0) F (As := [vI 1]) (st := []) vd_X12_130 (c_X12_is G l M 1 hI_M (by omega)) kd_163 rfl rfl rfl ⟨by decide, by decide⟩ rfl rfl (Nat.le_of_ble_eq_true rfl) dX12_tray_28 rfl ?_
    intro r_87 N_88 q_89
    obtain ⟨hI_N_88, hG_N_88, q_89c⟩ := q_89
    have hF_N_88 : Fr f_e_X12_tray M N_88 := Fr.c hF_M hG_N_88 rfl
    rcases q_89c with q_89c | q_89c
    · exfalso; omega
    · exact kx_zret F hQ (by omega) ⟨hI_N_88, hF_N_88, (Or.inr (Or.inl (by omega))), (Or.inr ⟨by omega, (Fr.fn hG_N_88 kd_167 rfl), (Fr.fn hG_N_88 kd_166 rfl)⟩)⟩ dX12_tray_31
  · refine kx_if_eq 7 F 26 dX12_tray_4 (by decide) rfl (by omega) (fun h_90 => ?_) (fun h_90 => (by exfalso; omega))
    refine kx_aload_n 27 F 0 dX12_tray_26 rfl rfl rfl ?_
    refine kx_iconst 28 F dX12_tray_27 rfl ?_
    refine kx_Vi 31 (ci := 0) F (As := [vI 1]) (st := []) vd_X12_130 (c_X12_is G l M 1 hI_M (by omega)) kd_163 rfl rfl rfl ⟨by decide, by decide⟩ rfl rfl (Nat.le_of_ble_eq_true rfl) dX12_tray_28 rfl ?_
    intro r_91 N_92 q_93
    obtain ⟨hI_N_92, hG_N_92, q_93c⟩ := q_93
    have hF_N_92 : Fr f_e_X12_tray M N_92 := Fr.c hF_M hG_N_92 rfl
    rcases q_93c with q_93c | q_93c
    · exfalso; omega
    · exact kx_zret F hQ (by omega) ⟨hI_N_92, hF_N_92, (Or.inr (Or.inr (Or.inl (by omega)))), (Or.inr ⟨by omega, (Fr.fn hG_N_92 kd_167 rfl), (Fr.fn hG_N_92 kd_166 rfl)⟩)⟩ dX12_tray_31
abbrev f_e_X12_write : List (Nat × Int) := [(64, 2), (69, -1)]
set_option maxHeartbeats 4000000 in
set_option maxRecDepth 100000 in
theorem e_X12_write (G : KG) (l : Launch) (M : Mem) (a1 : Int) (a2 : Int) (a3 : Int) (hI_M : Inv true M) (hpre : -2147483648 ≤ a1 ∧ a1 ≤ 2147483647 ∧ -2147483648 ≤ a2 ∧ a2 ≤ 2147483647 ∧ -9223372036854775808 ≤ a3 ∧ a3 ≤ 9223372036854775807) : KC true G l yX12_write cX12_write 6 (some .boolean) (2, 42) [vR G 163, vI a1, vI a2, vL a3] M (fun A => kQi true G A (fun (r : Int) (N : Mem) => Inv true N ∧ Fr f_e_X12_write M N ∧ ((r = 1 ∧ 0 ≤ a1 ∧ a1 ≤ 3 ∧ 0 ≤ a2 ∧ a2 < (M 167 a1) ∧ a2 ≤ 59) ∨ (r = 0 ∧ a1 < 0) ∨ (r = 0 ∧ a1 > 3) ∨ (r = 0 ∧ 0 ≤ a1 ∧ a1 ≤ 3 ∧ (M 167 a1) = -1) ∨ (r = 0 ∧ 0 ≤ a1 ∧ a1 ≤ 3 ∧ a2 < 0) ∨ (r = 0 ∧ 0 ≤ a1 ∧ a1 ≤ 3 ∧ a2 ≥ (M 167 a1))))) := by
  refine kx_met (lo := [some (vR G 163), some (vI a1), some (vI a2), some (vL a3), none, none]) (by decide) (Nat.le_of_ble_eq_true rfl) rfl ?_
  intro X F hQ
  have hF_M : Fr f_e_X12_write M M := Fr.rf _ _
  refine kx_aload_n 1 F 0 dX12_write_0 rfl rfl rfl ?_
  refine kx_iload_n 2 F 1 dX12_write_1 rfl rfl rfl ?_
  refine kx_iload_n 3 F 2 dX12_write_2 rfl rfl rfl ?_
  refine kx_Vi 6 (ci := 0) F (As := [vI a1, vI a2]) (st := []) vd_X12_137 (e_X12_wrongPlace G l M a1 a2 hI_M (by omega)) kd_163 rfl rfl rfl ⟨by decide, by decide⟩ rfl rfl (Nat.le_of_ble_eq_true rfl) dX12_write_3 rfl ?_
  intro r_1 N_2 q_3
  obtain ⟨rfl, q_3c⟩ := q_3
  rcases q_3c with q_3c | q_3c | q_3c | q_3c | q_3c | q_3c
  · refine kx_istore 8 F 5 (lo' := [some (vR G 163), some (vI a1), some (vI a2), some (vL a3), none, some (vI r_1)]) dX12_write_6 (by decide) rfl rfl rfl ?_
    refine kx_iload 10 F 5 dX12_write_8 rfl rfl ?_
    refine kx_if_ne 13 F 34 dX12_write_10 (by decide) rfl (by omega) (fun h_4 => (by exfalso; omega)) (fun h_4 => ?_)
    refine kx_aload_n 14 F 0 dX12_write_13 rfl rfl rfl ?_
    refine kx_getr 17 F fl_X12_27 kd_163 rfl rfl (j := 7) rfl dX12_write_14 (v := 168) (uq_168 (Inv.r hI_M kd_163 rfl 7 rfl rfl)) rfl ?_
    refine kx_bipush 19 F dX12_write_17 (by decide) rfl ?_
    refine kx_iload_n 20 F 1 dX12_write_19 rfl rfl rfl ?_
    refine kx_imul 21 F (v := 60 * a1) dX12_write_20 (by omega) rfl ?_
    refine kx_iload_n 22 F 2 dX12_write_21 rfl rfl rfl ?_
    refine kx_iadd 23 F (v := 60 * a1 + a2) dX12_write_22 rfl rfl ?_
    refine kx_lload_n 24 F 3 dX12_write_23 rfl rfl rfl ?_
    refine kx_aload_n 25 F 0 dX12_write_24 rfl rfl rfl ?_
    refine kx_getr 28 F fl_X12_21 kd_163 rfl rfl (j := 5) rfl dX12_write_25 (v := 166) (uq_166 (Inv.r hI_M kd_163 rfl 5 rfl rfl)) rfl ?_
    refine kx_iload_n 29 F 1 dX12_write_28 rfl rfl rfl ?_
    refine kx_iald 30 F kd_166 rfl rfl (by omega) (by decide) dX12_write_29 (v := (M 166 a1)) rfl rfl ?_
    have h_5 := Inv.g hI_M kd_166 rfl a1 (a := 0) (b := 3) rfl rfl
    refine kx_Sl 33 F (As := [vL a3, vI (M 166 a1)]) (st := [vI (60 * a1 + a2), vR G 168]) sd_X12_141 (c_X12_cut G l M a3 (M 166 a1) hI_M (by omega)) ⟨by decide, by decide⟩ rfl rfl (Nat.le_of_ble_eq_true rfl) dX12_write_30 rfl ?_
    intro r_6 N_7 q_8
    obtain ⟨rfl, q_8c⟩ := q_8
    refine kx_last 34 F kd_168 rfl rfl (by omega) (by decide) dX12_write_33 rfl ?_
    intro N_9 hM_N_9
    have hI_N_9 : Inv true N_9 := Inv.u hI_M hM_N_9 kd_168 (a := (-9223372036854775808)) (b := 9223372036854775807) rfl rfl rfl (by omega)
    have hF_N_9 : Fr f_e_X12_write M N_9 := Fr.u hF_M hM_N_9 kd_168 rfl
    refine kx_aload_n 35 F 0 dX12_write_34 rfl rfl rfl ?_
    refine kx_iload 37 F 5 dX12_write_35 rfl rfl ?_
    refine kx_Vi 40 (ci := 0) F (As := [vI r_1]) (st := []) vd_X12_130 (c_X12_is G l N_9 r_1 hI_N_9 (by omega)) kd_163 rfl rfl rfl ⟨by decide, by decide⟩ rfl rfl (Nat.le_of_ble_eq_true rfl) dX12_write_37 rfl ?_
    intro r_10 N_11 q_12
    obtain ⟨hI_N_11, hG_N_11, q_12c⟩ := q_12
    have hF_N_11 : Fr f_e_X12_write M N_11 := Fr.c hF_N_9 hG_N_11 rfl
    rcases q_12c with q_12c | q_12c
    · exact kx_zret F hQ (by omega) ⟨hI_N_11, hF_N_11, (Or.inl (by omega))⟩ dX12_write_40
    · exfalso; omega
  · refine kx_istore 8 F 5 (lo' := [some (vR G 163), some (vI a1), some (vI a2), some (vL a3), none, some (vI r_1)]) dX12_write_6 (by decide) rfl rfl rfl ?_
    refine kx_iload 10 F 5 dX12_write_8 rfl rfl ?_
    refine kx_if_ne 13 F 34 dX12_write_10 (by decide) rfl (by omega) (fun h_13 => ?_) (fun h_13 => (by exfalso; omega))
    refine kx_aload_n 35 F 0 dX12_write_34 rfl rfl rfl ?_
    refine kx_iload 37 F 5 dX12_write_35 rfl rfl ?_
    refine kx_Vi 40 (ci := 0) F (As := [vI r_1]) (st := []) vd_X12_130 (c_X12_is G l M r_1 hI_M (by omega)) kd_163 rfl rfl rfl ⟨by decide, by decide⟩ rfl rfl (Nat.le_of_ble_eq_true rfl) dX12_write_37 rfl ?_
    intro r_14 N_15 q_16
    obtain ⟨hI_N_15, hG_N_15, q_16c⟩ := q_16
    have hF_N_15 : Fr f_e_X12_write M N_15 := Fr.c hF_M hG_N_15 rfl
    rcases q_16c with q_16c | q_16c
    · exfalso; omega
    · exact kx_zret F hQ (by omega) ⟨hI_N_15, hF_N_15, (Or.inr (Or.inl (by omega)))⟩ dX12_write_40
  · refine kx_istore 8 F 5 (lo' := [some (vR G 163), some (vI a1), some (vI a2), some (vL a3), none, some (vI r_1)]) dX12_write_6 (by decide) rfl rfl rfl ?_
    refine kx_iload 10 F 5 dX12_write_8 rfl rfl ?_
    refine kx_if_ne 13 F 34 dX12_write_10 (by decide) rfl (by omega) (fun h_17 => ?_) (fun h_17 => (by exfalso; omega))
    refine kx_aload_n 35 F 0 dX12_write_34 rfl rfl rfl ?_
    refine kx_iload 37 F 5 dX12_write_35 rfl rfl ?_
    refine kx_Vi 40 (ci := 0) F (As := [vI r_1]) (st := []) vd_X12_130 (c_X12_is G l M r_1 hI_M (by omega)) kd_163 rfl rfl rfl ⟨by decide, by decide⟩ rfl rfl (Nat.le_of_ble_eq_true rfl) dX12_write_37 rfl ?_
    intro r_18 N_19 q_20
    obtain ⟨hI_N_19, hG_N_19, q_20c⟩ := q_20
    have hF_N_19 : Fr f_e_X12_write M N_19 := Fr.c hF_M hG_N_19 rfl
    rcases q_20c with q_20c | q_20c
    · exfalso; omega
    · exact kx_zret F hQ (by omega) ⟨hI_N_19, hF_N_19, (Or.inr (Or.inr (Or.inl (by omega))))⟩ dX12_write_40
  · refine kx_istore 8 F 5 (lo' := [some (vR G 163), some (vI a1), some (vI a2), some (vL a3), none, some (vI r_1)]) dX12_write_6 (by decide) rfl rfl rfl ?_
    refine kx_iload 10 F 5 dX12_write_8 rfl rfl ?_
    refine kx_if_ne 13 F 34 dX12_write_10 (by decide) rfl (by omega) (fun h_21 => ?_) (fun h_21 => (by exfalso; omega))
    refine kx_aload_n 35 F 0 dX12_write_34 rfl rfl rfl ?_
    refine kx_iload 37 F 5 dX12_write_35 rfl rfl ?_
    refine kx_Vi 40 (ci := 0) F (As := [vI r_1]) (st := []) vd_X12_130 (c_X12_is G l M r_1 hI_M (by omega)) kd_163 rfl rfl rfl ⟨by decide, by decide⟩ rfl rfl (Nat.le_of_ble_eq_true rfl) dX12_write_37 rfl ?_
    intro r_22 N_23 q_24
    obtain ⟨hI_N_23, hG_N_23, q_24c⟩ := q_24
    have hF_N_23 : Fr f_e_X12_write M N_23 := Fr.c hF_M hG_N_23 rfl
    rcases q_24c with q_24c | q_24c
    · exfalso; omega
    · exact kx_zret F hQ (by omega) ⟨hI_N_23, hF_N_23, (Or.inr (Or.inr (Or.inr (Or.inl (by omega)))))⟩ dX12_write_40
  · refine kx_istore 8 F 5 (lo' := [some (vR G 163), some (vI a1), some (vI a2), some (vL a3), none, some (vI r_1)]) dX12_write_6 (by decide) rfl rfl rfl ?_
    refine kx_iload 10 F 5 dX12_write_8 rfl rfl ?_
    refine kx_if_ne 13 F 34 dX12_write_10 (by decide) rfl (by omega) (fun h_25 => ?_) (fun h_25 => (by exfalso; omega))
    refine kx_aload_n 35 F 0 dX12_write_34 rfl rfl rfl ?_
    refine kx_iload 37 F 5 dX12_write_35 rfl rfl ?_
    refine kx_Vi 40 (ci := 0) F (As := [vI r_1]) (st := []) vd_X12_130 (c_X12_is G l M r_1 hI_M (by omega)) kd_163 rfl rfl rfl ⟨by decide, by decide⟩ rfl rfl (Nat.le_of_ble_eq_true rfl) dX12_write_37 rfl ?_
    intro r_26 N_27 q_28
    obtain ⟨hI_N_27, hG_N_27, q_28c⟩ := q_28
    have hF_N_27 : Fr f_e_X12_write M N_27 := Fr.c hF_M hG_N_27 rfl
    rcases q_28c with q_28c | q_28c
    · exfalso; omega
    · exact kx_zret F hQ (by omega) ⟨hI_N_27, hF_N_27, (Or.inr (Or.inr (Or.inr (Or.inr (Or.inl (by omega))))))⟩ dX12_write_40
  · refine kx_istore 8 F 5 (lo' := [some (vR G 163), some (vI a1), some (vI a2), some (vL a3), none, some (vI r_1)]) dX12_write_6 (by decide) rfl rfl rfl ?_
    refine kx_iload 10 F 5 dX12_write_8 rfl rfl ?_
    refine kx_if_ne 13 F 34 dX12_write_10 (by decide) rfl (by omega) (fun h_29 => ?_) (fun h_29 => (by exfalso; omega))
    refine kx_aload_n 35 F 0 dX12_write_34 rfl rfl rfl ?_
    refine kx_iload 37 F 5 dX12_write_35 rfl rfl ?_
    refine kx_Vi 40 (ci := 0) F (As := [vI r_1]) (st := []) vd_X12_130 (c_X12_is G l M r_1 hI_M (by omega)) kd_163 rfl rfl rfl ⟨by decide, by decide⟩ rfl rfl (Nat.le_of_ble_eq_true rfl) dX12_write_37 rfl ?_
    intro r_30 N_31 q_32
    obtain ⟨hI_N_31, hG_N_31, q_32c⟩ := q_32
    have hF_N_31 : Fr f_e_X12_write M N_31 := Fr.c hF_M hG_N_31 rfl
    rcases q_32c with q_32c | q_32c
    · exfalso; omega
    · exact kx_zret F hQ (by omega) ⟨hI_N_31, hF_N_31, (Or.inr (Or.inr (Or.inr (Or.inr (Or.inr (by omega))))))⟩ dX12_write_40
abbrev f_e_X12_pour : List (Nat × Int) := [(64, 2), (69, -1)]
set_option maxHeartbeats 4000000 in
set_option maxRecDepth 100000 in
theorem e_X12_pour (G : KG) (l : Launch) (M : Mem) (a1 : Int) (a2 : Int) (a3 : Int) (a4 : Int) (a5 : Int) (hI_M : Inv true M) (hpre : -2147483648 ≤ a1 ∧ a1 ≤ 2147483647 ∧ -2147483648 ≤ a2 ∧ a2 ≤ 2147483647 ∧ -2147483648 ≤ a3 ∧ a3 ≤ 2147483647 ∧ -2147483648 ≤ a4 ∧ a4 ≤ 2147483647 ∧ -2147483648 ≤ a5 ∧ a5 ≤ 2147483647) : KC true G l yX12_pour cX12_pour 8 (some .boolean) (1, 21) [vR G 163, vI a1, vI a2, vI a3, vI a4, vI a5] M (fun A => kQi true G A (fun (r : Int) (N : Mem) => Inv true N ∧ Fr f_e_X12_pour M N ∧ (r ≥ 0 ∧ r ≤ 1) ∧ (PPr r a1 a2 a3 a4 a5 (M 167 a1) (M 167 a3) (M 166 a1) (M 166 a3)))) := by
  refine kx_met (lo := [some (vR G 163), some (vI a1), some (vI a2), some (vI a3), some (vI a4), some (vI a5), none, none]) (by decide) (Nat.le_of_ble_eq_true rfl) rfl ?_
  intro X F hQ
  have hF_M : Fr f_e_X12_pour M M := Fr.rf _ _
  refine kx_iload_n 1 F 1 dX12_pour_0 rfl rfl rfl ?_
  refine kx_Si 4 F (As := [vI a1]) (st := []) sd_X12_134 (e_X12_isTray G l M a1 hI_M (by omega)) ⟨by decide, by decide⟩ rfl rfl (Nat.le_of_ble_eq_true rfl) dX12_pour_1 rfl ?_
  intro r_1 N_2 q_3
  obtain ⟨rfl, q_3c⟩ := q_3
  rcases q_3c with q_3c | q_3c | q_3c
  · refine kx_if_eq 7 F 28 dX12_pour_4 (by decide) rfl (by omega) (fun h_4 => (by exfalso; omega)) (fun h_4 => ?_)
    refine kx_iload_n 8 F 3 dX12_pour_7 rfl rfl rfl ?_
    refine kx_Si 11 F (As := [vI a3]) (st := []) sd_X12_134 (e_X12_isTray G l M a3 hI_M (by omega)) ⟨by decide, by decide⟩ rfl rfl (Nat.le_of_ble_eq_true rfl) dX12_pour_8 rfl ?_
    intro r_5 N_6 q_7
    obtain ⟨rfl, q_7c⟩ := q_7
    rcases q_7c with q_7c | q_7c | q_7c
    · refine kx_if_eq 14 F 28 dX12_pour_11 (by decide) rfl (by omega) (fun h_8 => (by exfalso; omega)) (fun h_8 => ?_)
      refine kx_iload_n 15 F 2 dX12_pour_14 rfl rfl rfl ?_
      refine kx_if_lt 18 F 28 dX12_pour_15 (by decide) rfl (by omega) (fun h_9 => ?_) (fun h_9 => ?_)
      · refine kx_aload_n 29 F 0 dX12_pour_28 rfl rfl rfl ?_
        refine kx_iconst 30 F dX12_pour_29 rfl ?_
        refine kx_Vi 33 (ci := 0) F (As := [vI 1]) (st := []) vd_X12_130 (c_X12_is G l M 1 hI_M (by omega)) kd_163 rfl rfl rfl ⟨by decide, by decide⟩ rfl rfl (Nat.le_of_ble_eq_true rfl) dX12_pour_30 rfl ?_
        intro r_10 N_11 q_12
        obtain ⟨hI_N_11, hG_N_11, q_12c⟩ := q_12
        have hF_N_11 : Fr f_e_X12_pour M N_11 := Fr.c hF_M hG_N_11 rfl
        rcases q_12c with q_12c | q_12c
        · exfalso; omega
        · exact kx_zret F hQ (by omega) ⟨hI_N_11, hF_N_11, (by omega), (Or.inr ⟨by omega, fun h => by unfold PK at h; omega⟩)⟩ dX12_pour_33
      · refine kx_iload 20 F 4 dX12_pour_18 rfl rfl ?_
        refine kx_if_lt 23 F 28 dX12_pour_20 (by decide) rfl (by omega) (fun h_13 => ?_) (fun h_13 => ?_)
        · refine kx_aload_n 29 F 0 dX12_pour_28 rfl rfl rfl ?_
          refine kx_iconst 30 F dX12_pour_29 rfl ?_
          refine kx_Vi 33 (ci := 0) F (As := [vI 1]) (st := []) vd_X12_130 (c_X12_is G l M 1 hI_M (by omega)) kd_163 rfl rfl rfl ⟨by decide, by decide⟩ rfl rfl (Nat.le_of_ble_eq_true rfl) dX12_pour_30 rfl ?_
          intro r_14 N_15 q_16
          obtain ⟨hI_N_15, hG_N_15, q_16c⟩ := q_16
          have hF_N_15 : Fr f_e_X12_pour M N_15 := Fr.c hF_M hG_N_15 rfl
          rcases q_16c with q_16c | q_16c
          · exfalso; omega
          · exact kx_zret F hQ (by omega) ⟨hI_N_15, hF_N_15, (by omega), (Or.inr ⟨by omega, fun h => by unfold PK at h; omega⟩)⟩ dX12_pour_33
        · refine kx_iload 25 F 5 dX12_pour_23 rfl rfl ?_
          refine kx_if_ge 28 F 34 dX12_pour_25 (by decide) rfl (by omega) (fun h_17 => ?_) (fun h_17 => ?_)
          · refine kx_aload_n 35 F 0 dX12_pour_34 rfl rfl rfl ?_
            refine kx_getr 38 F fl_X12_24 kd_163 rfl rfl (j := 6) rfl dX12_pour_35 (v := 167) (uq_167 (Inv.r hI_M kd_163 rfl 6 rfl rfl)) rfl ?_
            refine kx_iload_n 39 F 1 dX12_pour_38 rfl rfl rfl ?_
            refine kx_iald 40 F kd_167 rfl rfl (by omega) (by decide) dX12_pour_39 (v := (M 167 a1)) rfl rfl ?_
            have h_18 := Inv.g hI_M kd_167 rfl a1 (a := (-1)) (b := 60) rfl rfl
            refine kx_iconst 41 F dX12_pour_40 rfl ?_
            refine kx_icmp_eq 44 F 54 dX12_pour_41 (by decide) rfl (by omega) (by decide) (fun h_19 => ?_) (fun h_19 => ?_)
            · refine kx_aload_n 55 F 0 dX12_pour_54 rfl rfl rfl ?_
              refine kx_iconst 56 F dX12_pour_55 rfl ?_
              refine kx_Vi 59 (ci := 0) F (As := [vI 2]) (st := []) vd_X12_130 (c_X12_is G l M 2 hI_M (by omega)) kd_163 rfl rfl rfl ⟨by decide, by decide⟩ rfl rfl (Nat.le_of_ble_eq_true rfl) dX12_pour_56 rfl ?_
              intro r_20 N_21 q_22
              obtain ⟨hI_N_21, hG_N_21, q_22c⟩ := q_22
              have hF_N_21 : Fr f_e_X12_pour M N_21 := Fr.c hF_M hG_N_21 rfl
              rcases q_22c with q_22c | q_22c
              · exfalso; omega
              · exact kx_zret F hQ (by omega) ⟨hI_N_21, hF_N_21, (by omega), (Or.inr ⟨by omega, fun h => by unfold PK at h; omega⟩)⟩ dX12_pour_59
            · refine kx_aload_n 45 F 0 dX12_pour_44 rfl rfl rfl ?_
              refine kx_getr 48 F fl_X12_24 kd_163 rfl rfl (j := 6) rfl dX12_pour_45 (v := 167) (uq_167 (Inv.r hI_M kd_163 rfl 6 rfl rfl)) rfl ?_
              refine kx_iload_n 49 F 3 dX12_pour_48 rfl rfl rfl ?_
              refine kx_iald 50 F kd_167 rfl rfl (by omega) (by decide) dX12_pour_49 (v := (M 167 a3)) rfl rfl ?_
              have h_23 := Inv.g hI_M kd_167 rfl a3 (a := (-1)) (b := 60) rfl rfl
              refine kx_iconst 51 F dX12_pour_50 rfl ?_
              refine kx_icmp_ne 54 F 60 dX12_pour_51 (by decide) rfl (by omega) (by decide) (fun h_24 => ?_) (fun h_24 => ?_)
              · refine kx_aload_n 61 F 0 dX12_pour_60 rfl rfl rfl ?_
                refine kx_getr 64 F fl_X12_21 kd_163 rfl rfl (j := 5) rfl dX12_pour_61 (v := 166) (uq_166 (Inv.r hI_M kd_163 rfl 5 rfl rfl)) rfl ?_
                refine kx_iload_n 65 F 1 dX12_pour_64 rfl rfl rfl ?_
                refine kx_iald 66 F kd_166 rfl rfl (by omega) (by decide) dX12_pour_65 (v := (M 166 a1)) rfl rfl ?_
                have h_25 := Inv.g hI_M kd_166 rfl a1 (a := 0) (b := 3) rfl rfl
                refine kx_aload_n 67 F 0 dX12_pour_66 rfl rfl rfl ?_
                refine kx_getr 70 F fl_X12_21 kd_163 rfl rfl (j := 5) rfl dX12_pour_67 (v := 166) (uq_166 (Inv.r hI_M kd_163 rfl 5 rfl rfl)) rfl ?_
                refine kx_iload_n 71 F 3 dX12_pour_70 rfl rfl rfl ?_
                refine kx_iald 72 F kd_166 rfl rfl (by omega) (by decide) dX12_pour_71 (v := (M 166 a3)) rfl rfl ?_
                have h_26 := Inv.g hI_M kd_166 rfl a3 (a := 0) (b := 3) rfl rfl
                refine kx_icmp_eq 75 F 82 dX12_pour_72 (by decide) rfl (by omega) (by omega) (fun h_27 => ?_) (fun h_27 => ?_)
                · refine kx_iload 84 F 5 dX12_pour_82 rfl rfl ?_
                  refine kx_aload_n 85 F 0 dX12_pour_84 rfl rfl rfl ?_
                  refine kx_getr 88 F fl_X12_24 kd_163 rfl rfl (j := 6) rfl dX12_pour_85 (v := 167) (uq_167 (Inv.r hI_M kd_163 rfl 6 rfl rfl)) rfl ?_
                  refine kx_iload_n 89 F 1 dX12_pour_88 rfl rfl rfl ?_
                  refine kx_iald 90 F kd_167 rfl rfl (by omega) (by decide) dX12_pour_89 (v := (M 167 a1)) rfl rfl ?_
                  refine kx_iload_n 91 F 2 dX12_pour_90 rfl rfl rfl ?_
                  refine kx_isub 92 F (v := (M 167 a1) - a2) dX12_pour_91 rfl rfl ?_
                  refine kx_icmp_gt 95 F 109 dX12_pour_92 (by decide) rfl (by omega) (by omega) (fun h_28 => ?_) (fun h_28 => ?_)
                  · refine kx_aload_n 110 F 0 dX12_pour_109 rfl rfl rfl ?_
                    refine kx_iconst 111 F dX12_pour_110 rfl ?_
                    refine kx_Vi 114 (ci := 0) F (As := [vI 3]) (st := []) vd_X12_130 (c_X12_is G l M 3 hI_M (by omega)) kd_163 rfl rfl rfl ⟨by decide, by decide⟩ rfl rfl (Nat.le_of_ble_eq_true rfl) dX12_pour_111 rfl ?_
                    intro r_29 N_30 q_31
                    obtain ⟨hI_N_30, hG_N_30, q_31c⟩ := q_31
                    have hF_N_30 : Fr f_e_X12_pour M N_30 := Fr.c hF_M hG_N_30 rfl
                    rcases q_31c with q_31c | q_31c
                    · exfalso; omega
                    · exact kx_zret F hQ (by omega) ⟨hI_N_30, hF_N_30, (by omega), (Or.inr ⟨by omega, fun h => by unfold PK at h; omega⟩)⟩ dX12_pour_114
                  · refine kx_iload 97 F 5 dX12_pour_95 rfl rfl ?_
                    refine kx_aload_n 98 F 0 dX12_pour_97 rfl rfl rfl ?_
                    refine kx_getr 101 F fl_X12_24 kd_163 rfl rfl (j := 6) rfl dX12_pour_98 (v := 167) (uq_167 (Inv.r hI_M kd_163 rfl 6 rfl rfl)) rfl ?_
                    refine kx_iload_n 102 F 3 dX12_pour_101 rfl rfl rfl ?_
                    refine kx_iald 103 F kd_167 rfl rfl (by omega) (by decide) dX12_pour_102 (v := (M 167 a3)) rfl rfl ?_
                    refine kx_iload 105 F 4 dX12_pour_103 rfl rfl ?_
                    refine kx_isub 106 F (v := (M 167 a3) - a4) dX12_pour_105 rfl rfl ?_
                    refine kx_icmp_le 109 F 115 dX12_pour_106 (by decide) rfl (by omega) (by omega) (fun h_32 => ?_) (fun h_32 => ?_)
                    · refine kx_iconst 116 F dX12_pour_115 rfl ?_
                      refine kx_istore 118 F 6 (lo' := [some (vR G 163), some (vI a1), some (vI a2), some (vI a3), some (vI a4), some (vI a5), some (vI 0), none]) dX12_pour_116 (by decide) rfl rfl rfl ?_
                      have L_112 : ∀ (n_113 : Nat) (x6_110 : Int) (N_111 : Mem), Inv true N_111 → Fr f_e_X12_pour M N_111 → 0 ≤ x6_110 ∧ x6_110 ≤ 60 → (60 - (x6_110)).toNat = n_113 → KJ true G X N_111 118 [some (vR G 163), some (vI a1), some (vI a2), some (vI a3), some (vI a4), some (vI a5), some (vI x6_110), none] [] := by
                        intro n_113
                        refine Nat.strongRecOn n_113 ?_
                        intro n_113 ih_114 x6_110 N_111 hI_N_111 hF_N_111 h_115 hm_116
                        refine kx_iload 120 F 6 dX12_pour_118 rfl rfl ?_
                        refine kx_iload 122 F 5 dX12_pour_120 rfl rfl ?_
                        refine kx_icmp_ge 125 F 180 dX12_pour_122 (by decide) rfl (by omega) (by omega) (fun h_117 => ?_) (fun h_117 => ?_)
                        · refine kx_aload_n 181 F 0 dX12_pour_180 rfl rfl rfl ?_
                          refine kx_iconst 182 F dX12_pour_181 rfl ?_
                          refine kx_Vi 185 (ci := 0) F (As := [vI 0]) (st := []) vd_X12_130 (c_X12_is G l N_111 0 hI_N_111 (by omega)) kd_163 rfl rfl rfl ⟨by decide, by decide⟩ rfl rfl (Nat.le_of_ble_eq_true rfl) dX12_pour_182 rfl ?_
                          intro r_118 N_119 q_120
                          obtain ⟨hI_N_119, hG_N_119, q_120c⟩ := q_120
                          have hF_N_119 : Fr f_e_X12_pour M N_119 := Fr.c hF_N_111 hG_N_119 rfl
                          rcases q_120c with q_120c | q_120c
                          · exact kx_zret F hQ (by omega) ⟨hI_N_119, hF_N_119, (by omega), (Or.inl ⟨by omega, by omega, by omega, by omega, by omega, by omega, by omega, by omega, by omega, by omega, by omega, by omega, by omega, by omega, by omega⟩)⟩ dX12_pour_185
                          · exact kx_zret F hQ (by omega) ⟨hI_N_119, hF_N_119, (by omega), (Or.inr ⟨by omega, fun h => by unfold PK at h; omega⟩)⟩ dX12_pour_185
                        · refine kx_iload_n 126 F 2 dX12_pour_125 rfl rfl rfl ?_
                          refine kx_iload 128 F 4 dX12_pour_126 rfl rfl ?_
                          refine kx_icmp_ge 131 F 141 dX12_pour_128 (by decide) rfl (by omega) (by omega) (fun h_121 => ?_) (fun h_121 => ?_)
                          · refine kx_iload 143 F 6 dX12_pour_141 rfl rfl ?_
                            refine kx_istore 145 F 7 (lo' := [some (vR G 163), some (vI a1), some (vI a2), some (vI a3), some (vI a4), some (vI a5), some (vI x6_110), some (vI x6_110)]) dX12_pour_143 (by decide) rfl rfl rfl ?_
                            refine kx_aload_n 146 F 0 dX12_pour_145 rfl rfl rfl ?_
                            refine kx_getr 149 F fl_X12_27 kd_163 rfl rfl (j := 7) rfl dX12_pour_146 (v := 168) (uq_168 (Inv.r hI_N_111 kd_163 rfl 7 rfl rfl)) rfl ?_
                            refine kx_bipush 151 F dX12_pour_149 (by decide) rfl ?_
                            refine kx_iload_n 152 F 3 dX12_pour_151 rfl rfl rfl ?_
                            refine kx_imul 153 F (v := 60 * a3) dX12_pour_152 (by omega) rfl ?_
                            refine kx_iload 155 F 4 dX12_pour_153 rfl rfl ?_
                            refine kx_iadd 156 F (v := 60 * a3 + a4) dX12_pour_155 rfl rfl ?_
                            refine kx_iload 158 F 7 dX12_pour_156 rfl rfl ?_
                            refine kx_iadd 159 F (v := 60 * a3 + a4 + x6_110) dX12_pour_158 rfl rfl ?_
                            refine kx_aload_n 160 F 0 dX12_pour_159 rfl rfl rfl ?_
                            refine kx_getr 163 F fl_X12_27 kd_163 rfl rfl (j := 7) rfl dX12_pour_160 (v := 168) (uq_168 (Inv.r hI_N_111 kd_163 rfl 7 rfl rfl)) rfl ?_
                            refine kx_bipush 165 F dX12_pour_163 (by decide) rfl ?_
                            refine kx_iload_n 166 F 1 dX12_pour_165 rfl rfl rfl ?_
                            refine kx_imul 167 F (v := 60 * a1) dX12_pour_166 (by omega) rfl ?_
                            refine kx_iload_n 168 F 2 dX12_pour_167 rfl rfl rfl ?_
                            refine kx_iadd 169 F (v := 60 * a1 + a2) dX12_pour_168 rfl rfl ?_
                            refine kx_iload 171 F 7 dX12_pour_169 rfl rfl ?_
                            refine kx_iadd 172 F (v := 60 * a1 + a2 + x6_110) dX12_pour_171 rfl rfl ?_
                            refine kx_lald 173 F kd_168 rfl rfl (by omega) (by decide) dX12_pour_172 (v := (N_111 168 (60 * a1 + a2 + x6_110))) rfl rfl ?_
                            have h_122 := Inv.g hI_N_111 kd_168 rfl (60 * a1 + a2 + x6_110) (a := (-9223372036854775808)) (b := 9223372036854775807) rfl rfl
                            refine kx_last 174 F kd_168 rfl rfl (by omega) (by decide) dX12_pour_173 rfl ?_
                            intro N_123 hM_N_123
                            have hI_N_123 : Inv true N_123 := Inv.u hI_N_111 hM_N_123 kd_168 (a := (-9223372036854775808)) (b := 9223372036854775807) rfl rfl rfl (by omega)
                            have hF_N_123 : Fr f_e_X12_pour M N_123 := Fr.u hF_N_111 hM_N_123 kd_168 rfl
                            refine kx_iinc 177 F 6 (v := x6_110 + 1) (lo' := [some (vR G 163), some (vI a1), some (vI a2), some (vI a3), some (vI a4), some (vI a5), some (vI (x6_110 + 1)), some (vI x6_110)]) dX12_pour_174 rfl (by omega) (by decide) rfl rfl rfl ?_
                            refine kx_goto 118 F dX12_pour_177 (by decide) ?_
                            refine kx_drop 7 (lo' := [some (vR G 163), some (vI a1), some (vI a2), some (vI a3), some (vI a4), some (vI a5), some (vI (x6_110 + 1)), none]) rfl ?_
                            exact ih_114 _ (by omega) (x6_110 + 1) N_123 hI_N_123 hF_N_123 (by omega) rfl
                          · refine kx_iload 133 F 5 dX12_pour_131 rfl rfl ?_
                            refine kx_iconst 134 F dX12_pour_133 rfl ?_
                            refine kx_isub 135 F (v := a5 - 1) dX12_pour_134 rfl rfl ?_
                            refine kx_iload 137 F 6 dX12_pour_135 rfl rfl ?_
                            refine kx_isub 138 F (v := a5 - x6_110 - 1) dX12_pour_137 (by omega) rfl ?_
                            refine kx_goto 143 F dX12_pour_138 (by decide) ?_
                            refine kx_istore 145 F 7 (lo' := [some (vR G 163), some (vI a1), some (vI a2), some (vI a3), some (vI a4), some (vI a5), some (vI x6_110), some (vI (a5 - x6_110 - 1))]) dX12_pour_143 (by decide) rfl rfl rfl ?_
                            refine kx_aload_n 146 F 0 dX12_pour_145 rfl rfl rfl ?_
                            refine kx_getr 149 F fl_X12_27 kd_163 rfl rfl (j := 7) rfl dX12_pour_146 (v := 168) (uq_168 (Inv.r hI_N_111 kd_163 rfl 7 rfl rfl)) rfl ?_
                            refine kx_bipush 151 F dX12_pour_149 (by decide) rfl ?_
                            refine kx_iload_n 152 F 3 dX12_pour_151 rfl rfl rfl ?_
                            refine kx_imul 153 F (v := 60 * a3) dX12_pour_152 (by omega) rfl ?_
                            refine kx_iload 155 F 4 dX12_pour_153 rfl rfl ?_
                            refine kx_iadd 156 F (v := 60 * a3 + a4) dX12_pour_155 rfl rfl ?_
                            refine kx_iload 158 F 7 dX12_pour_156 rfl rfl ?_
                            refine kx_iadd 159 F (v := 60 * a3 + a4 + a5 - x6_110 - 1) dX12_pour_158 (by omega) rfl ?_
                            refine kx_aload_n 160 F 0 dX12_pour_159 rfl rfl rfl ?_
                            refine kx_getr 163 F fl_X12_27 kd_163 rfl rfl (j := 7) rfl dX12_pour_160 (v := 168) (uq_168 (Inv.r hI_N_111 kd_163 rfl 7 rfl rfl)) rfl ?_
                            refine kx_bipush 165 F dX12_pour_163 (by decide) rfl ?_
                            refine kx_iload_n 166 F 1 dX12_pour_165 rfl rfl rfl ?_
                            refine kx_imul 167 F (v := 60 * a1) dX12_pour_166 (by omega) rfl ?_
                            refine kx_iload_n 168 F 2 dX12_pour_167 rfl rfl rfl ?_
                            refine kx_iadd 169 F (v := 60 * a1 + a2) dX12_pour_168 rfl rfl ?_
                            refine kx_iload 171 F 7 dX12_pour_169 rfl rfl ?_
                            refine kx_iadd 172 F (v := 60 * a1 + a2 + a5 - x6_110 - 1) dX12_pour_171 (by omega) rfl ?_
                            refine kx_lald 173 F kd_168 rfl rfl (by omega) (by decide) dX12_pour_172 (v := (N_111 168 (60 * a1 + a2 + a5 - x6_110 - 1))) rfl rfl ?_
                            have h_124 := Inv.g hI_N_111 kd_168 rfl (60 * a1 + a2 + a5 - x6_110 - 1) (a := (-9223372036854775808)) (b := 9223372036854775807) rfl rfl
                            refine kx_last 174 F kd_168 rfl rfl (by omega) (by decide) dX12_pour_173 rfl ?_
                            intro N_125 hM_N_125
                            have hI_N_125 : Inv true N_125 := Inv.u hI_N_111 hM_N_125 kd_168 (a := (-9223372036854775808)) (b := 9223372036854775807) rfl rfl rfl (by omega)
                            have hF_N_125 : Fr f_e_X12_pour M N_125 := Fr.u hF_N_111 hM_N_125 kd_168 rfl
                            refine kx_iinc 177 F 6 (v := x6_110 + 1) (lo' := [some (vR G 163), some (vI a1), some (vI a2), some (vI a3), some (vI a4), some (vI a5), some (vI (x6_110 + 1)), some (vI (a5 - x6_110 - 1))]) dX12_pour_174 rfl (by omega) (by decide) rfl rfl rfl ?_
                            refine kx_goto 118 F dX12_pour_177 (by decide) ?_
                            refine kx_drop 7 (lo' := [some (vR G 163), some (vI a1), some (vI a2), some (vI a3), some (vI a4), some (vI a5), some (vI (x6_110 + 1)), none]) rfl ?_
                            exact ih_114 _ (by omega) (x6_110 + 1) N_125 hI_N_125 hF_N_125 (by omega) rfl
                      exact L_112 _ 0 M hI_M hF_M (by omega) rfl
                    · refine kx_aload_n 110 F 0 dX12_pour_109 rfl rfl rfl ?_
                      refine kx_iconst 111 F dX12_pour_110 rfl ?_
                      refine kx_Vi 114 (ci := 0) F (As := [vI 3]) (st := []) vd_X12_130 (c_X12_is G l M 3 hI_M (by omega)) kd_163 rfl rfl rfl ⟨by decide, by decide⟩ rfl rfl (Nat.le_of_ble_eq_true rfl) dX12_pour_111 rfl ?_
                      intro r_126 N_127 q_128
                      obtain ⟨hI_N_127, hG_N_127, q_128c⟩ := q_128
                      have hF_N_127 : Fr f_e_X12_pour M N_127 := Fr.c hF_M hG_N_127 rfl
                      rcases q_128c with q_128c | q_128c
                      · exfalso; omega
                      · exact kx_zret F hQ (by omega) ⟨hI_N_127, hF_N_127, (by omega), (Or.inr ⟨by omega, fun h => by unfold PK at h; omega⟩)⟩ dX12_pour_114
                · refine kx_aload_n 76 F 0 dX12_pour_75 rfl rfl rfl ?_
                  refine kx_bipush 78 F dX12_pour_76 (by decide) rfl ?_
                  refine kx_Vi 81 (ci := 0) F (As := [vI 8]) (st := []) vd_X12_130 (c_X12_is G l M 8 hI_M (by omega)) kd_163 rfl rfl rfl ⟨by decide, by decide⟩ rfl rfl (Nat.le_of_ble_eq_true rfl) dX12_pour_78 rfl ?_
                  intro r_129 N_130 q_131
                  obtain ⟨hI_N_130, hG_N_130, q_131c⟩ := q_131
                  have hF_N_130 : Fr f_e_X12_pour M N_130 := Fr.c hF_M hG_N_130 rfl
                  rcases q_131c with q_131c | q_131c
                  · exfalso; omega
                  · exact kx_zret F hQ (by omega) ⟨hI_N_130, hF_N_130, (by omega), (Or.inr ⟨by omega, fun h => by unfold PK at h; omega⟩)⟩ dX12_pour_81
              · refine kx_aload_n 55 F 0 dX12_pour_54 rfl rfl rfl ?_
                refine kx_iconst 56 F dX12_pour_55 rfl ?_
                refine kx_Vi 59 (ci := 0) F (As := [vI 2]) (st := []) vd_X12_130 (c_X12_is G l M 2 hI_M (by omega)) kd_163 rfl rfl rfl ⟨by decide, by decide⟩ rfl rfl (Nat.le_of_ble_eq_true rfl) dX12_pour_56 rfl ?_
                intro r_132 N_133 q_134
                obtain ⟨hI_N_133, hG_N_133, q_134c⟩ := q_134
                have hF_N_133 : Fr f_e_X12_pour M N_133 := Fr.c hF_M hG_N_133 rfl
                rcases q_134c with q_134c | q_134c
                · exfalso; omega
                · exact kx_zret F hQ (by omega) ⟨hI_N_133, hF_N_133, (by omega), (Or.inr ⟨by omega, fun h => by unfold PK at h; omega⟩)⟩ dX12_pour_59
          · refine kx_aload_n 29 F 0 dX12_pour_28 rfl rfl rfl ?_
            refine kx_iconst 30 F dX12_pour_29 rfl ?_
            refine kx_Vi 33 (ci := 0) F (As := [vI 1]) (st := []) vd_X12_130 (c_X12_is G l M 1 hI_M (by omega)) kd_163 rfl rfl rfl ⟨by decide, by decide⟩ rfl rfl (Nat.le_of_ble_eq_true rfl) dX12_pour_30 rfl ?_
            intro r_135 N_136 q_137
            obtain ⟨hI_N_136, hG_N_136, q_137c⟩ := q_137
            have hF_N_136 : Fr f_e_X12_pour M N_136 := Fr.c hF_M hG_N_136 rfl
            rcases q_137c with q_137c | q_137c
            · exfalso; omega
            · exact kx_zret F hQ (by omega) ⟨hI_N_136, hF_N_136, (by omega), (Or.inr ⟨by omega, fun h => by unfold PK at h; omega⟩)⟩ dX12_pour_33
    · refine kx_if_eq 14 F 28 dX12_pour_11 (by decide) rfl (by omega) (fun h_138 => ?_) (fun h_138 => (by exfalso; omega))
      refine kx_aload_n 29 F 0 dX12_pour_28 rfl rfl rfl ?_
      refine kx_iconst 30 F dX12_pour_29 rfl ?_
      refine kx_Vi 33 (ci := 0) F (As := [vI 1]) (st := []) vd_X12_130 (c_X12_is G l M 1 hI_M (by omega)) kd_163 rfl rfl rfl ⟨by decide, by decide⟩ rfl rfl (Nat.le_of_ble_eq_true rfl) dX12_pour_30 rfl ?_
      intro r_139 N_140 q_141
      obtain ⟨hI_N_140, hG_N_140, q_141c⟩ := q_141
      have hF_N_140 : Fr f_e_X12_pour M N_140 := Fr.c hF_M hG_N_140 rfl
      rcases q_141c with q_141c | q_141c
      · exfalso; omega
      · exact kx_zret F hQ (by omega) ⟨hI_N_140, hF_N_140, (by omega), (Or.inr ⟨by omega, fun h => by unfold PK at h; omega⟩)⟩ dX12_pour_33
    · refine kx_if_eq 14 F 28 dX12_pour_11 (by decide) rfl (by omega) (fun h_142 => ?_) (fun h_142 => (by exfalso; omega))
      refine kx_aload_n 29 F 0 dX12_pour_28 rfl rfl rfl ?_
      refine kx_iconst 30 F dX12_pour_29 rfl ?_
      refine kx_Vi 33 (ci := 0) F (As := [vI 1]) (st := []) vd_X12_130 (c_X12_is G l M 1 hI_M (by omega)) kd_163 rfl rfl rfl ⟨by decide, by decide⟩ rfl rfl (Nat.le_of_ble_eq_true rfl) dX12_pour_30 rfl ?_
      intro r_143 N_144 q_145
      obtain ⟨hI_N_144, hG_N_144, q_145c⟩ := q_145
      have hF_N_144 : Fr f_e_X12_pour M N_144 := Fr.c hF_M hG_N_144 rfl
      rcases q_145c with q_145c | q_145c
      · exfalso; omega
      · exact kx_zret F hQ (by omega) ⟨hI_N_144, hF_N_144, (by omega), (Or.inr ⟨by omega, fun h => by unfold PK at h; omega⟩)⟩ dX12_pour_33
  · refine kx_if_eq 7 F 28 dX12_pour_4 (by decide) rfl (by omega) (fun h_146 => ?_) (fun h_146 => (by exfalso; omega))
    refine kx_aload_n 29 F 0 dX12_pour_28 rfl rfl rfl ?_
    refine kx_iconst 30 F dX12_pour_29 rfl ?_
    refine kx_Vi 33 (ci := 0) F (As := [vI 1]) (st := []) vd_X12_130 (c_X12_is G l M 1 hI_M (by omega)) kd_163 rfl rfl rfl ⟨by decide, by decide⟩ rfl rfl (Nat.le_of_ble_eq_true rfl) dX12_pour_30 rfl ?_
    intro r_147 N_148 q_149
    obtain ⟨hI_N_148, hG_N_148, q_149c⟩ := q_149
    have hF_N_148 : Fr f_e_X12_pour M N_148 := Fr.c hF_M hG_N_148 rfl
    rcases q_149c with q_149c | q_149c
    · exfalso; omega
    · exact kx_zret F hQ (by omega) ⟨hI_N_148, hF_N_148, (by omega), (Or.inr ⟨by omega, fun h => by unfold PK at h; omega⟩)⟩ dX12_pour_33
  · refine kx_if_eq 7 F 28 dX12_pour_4 (by decide) rfl (by omega) (fun h_150 => ?_) (fun h_150 => (by exfalso; omega))
    refine kx_aload_n 29 F 0 dX12_pour_28 rfl rfl rfl ?_
    refine kx_iconst 30 F dX12_pour_29 rfl ?_
    refine kx_Vi 33 (ci := 0) F (As := [vI 1]) (st := []) vd_X12_130 (c_X12_is G l M 1 hI_M (by omega)) kd_163 rfl rfl rfl ⟨by decide, by decide⟩ rfl rfl (Nat.le_of_ble_eq_true rfl) dX12_pour_30 rfl ?_
    intro r_151 N_152 q_153
    obtain ⟨hI_N_152, hG_N_152, q_153c⟩ := q_153
    have hF_N_152 : Fr f_e_X12_pour M N_152 := Fr.c hF_M hG_N_152 rfl
    rcases q_153c with q_153c | q_153c
    · exfalso; omega
    · exact kx_zret F hQ (by omega) ⟨hI_N_152, hF_N_152, (by omega), (Or.inr ⟨by omega, fun h => by unfold PK at h; omega⟩)⟩ dX12_pour_33
abbrev f_e_X12_feed : List (Nat × Int) := [(64, 10), (70, -1)]
set_option maxHeartbeats 4000000 in
set_option maxRecDepth 100000 in
theorem e_X12_feed (G : KG) (l : Launch) (M : Mem) (a1 : Int) (a2 : Int) (a3 : Int) (a4 : Int) (a5 : Int) (hI_M : Inv true M) (hpre : -2147483648 ≤ a1 ∧ a1 ≤ 2147483647 ∧ -2147483648 ≤ a2 ∧ a2 ≤ 2147483647 ∧ -2147483648 ≤ a3 ∧ a3 ≤ 2147483647 ∧ -2147483648 ≤ a4 ∧ a4 ≤ 2147483647 ∧ -2147483648 ≤ a5 ∧ a5 ≤ 2147483647) : KC true G l yX12_feed cX12_feed 6 (some .int) (1, 22) [vR G 163, vI a1, vI a2, vI a3, vI a4, vI a5] M (fun A => kQi true G A (fun (r : Int) (N : Mem) => Inv true N ∧ Fr f_e_X12_feed M N ∧ (((M 163 10) ≥ 881 ∧ r = -1 ∧ (N 163 10) = (M 163 10)) ∨ ((M 163 10) ≤ 880 ∧ r = (M 163 10) + 20 ∧ (N 163 10) = (M 163 10) + 20)))) := by
  refine kx_met (lo := [some (vR G 163), some (vI a1), some (vI a2), some (vI a3), some (vI a4), some (vI a5)]) (by decide) (Nat.le_of_ble_eq_true rfl) rfl ?_
  intro X F hQ
  have hF_M : Fr f_e_X12_feed M M := Fr.rf _ _
  refine kx_aload_n 1 F 0 dX12_feed_0 rfl rfl rfl ?_
  refine kx_geti 4 F fl_X12_147 kd_163 rfl rfl (j := 10) rfl dX12_feed_1 (v := (M 163 10)) rfl rfl ?_
  have h_1 := Inv.g hI_M kd_163 rfl 10 (a := 0) (b := 900) rfl rfl
  refine kx_bipush 6 F dX12_feed_4 (by decide) rfl ?_
  refine kx_iadd 7 F (v := (M 163 10) + 20) dX12_feed_6 rfl rfl ?_
  refine kx_sipush 10 F dX12_feed_7 (by decide) rfl ?_
  refine kx_icmp_le 13 F 15 dX12_feed_10 (by decide) rfl (by omega) (by decide) (fun h_2 => ?_) (fun h_2 => ?_)
  · refine kx_aload_n 16 F 0 dX12_feed_15 rfl rfl rfl ?_
    refine kx_iload_n 17 F 1 dX12_feed_16 rfl rfl rfl ?_
    refine kx_Vv 20 (ci := 0) F (As := [vI a1]) (st := []) vd_X12_150 (c_X12_four G l M a1 hI_M (by omega)) kd_163 rfl rfl rfl ⟨by decide, by decide⟩ rfl rfl (Nat.le_of_ble_eq_true rfl) dX12_feed_17 rfl ?_
    intro N_3 q_4
    obtain ⟨hI_N_3, hG_N_3, q_4c⟩ := q_4
    have hF_N_3 : Fr f_e_X12_feed M N_3 := Fr.c hF_M hG_N_3 rfl
    have h_5 := Inv.g hI_N_3 kd_163 rfl 10 (a := 0) (b := 900) rfl rfl
    refine kx_aload_n 21 F 0 dX12_feed_20 rfl rfl rfl ?_
    refine kx_iload_n 22 F 2 dX12_feed_21 rfl rfl rfl ?_
    refine kx_Vv 25 (ci := 0) F (As := [vI a2]) (st := []) vd_X12_150 (c_X12_four G l N_3 a2 hI_N_3 (by omega)) kd_163 rfl rfl rfl ⟨by decide, by decide⟩ rfl rfl (Nat.le_of_ble_eq_true rfl) dX12_feed_22 rfl ?_
    intro N_6 q_7
    obtain ⟨hI_N_6, hG_N_6, q_7c⟩ := q_7
    have hF_N_6 : Fr f_e_X12_feed M N_6 := Fr.c hF_N_3 hG_N_6 rfl
    have h_8 := Inv.g hI_N_6 kd_163 rfl 10 (a := 0) (b := 900) rfl rfl
    refine kx_aload_n 26 F 0 dX12_feed_25 rfl rfl rfl ?_
    refine kx_iload_n 27 F 3 dX12_feed_26 rfl rfl rfl ?_
    refine kx_Vv 30 (ci := 0) F (As := [vI a3]) (st := []) vd_X12_150 (c_X12_four G l N_6 a3 hI_N_6 (by omega)) kd_163 rfl rfl rfl ⟨by decide, by decide⟩ rfl rfl (Nat.le_of_ble_eq_true rfl) dX12_feed_27 rfl ?_
    intro N_9 q_10
    obtain ⟨hI_N_9, hG_N_9, q_10c⟩ := q_10
    have hF_N_9 : Fr f_e_X12_feed M N_9 := Fr.c hF_N_6 hG_N_9 rfl
    have h_11 := Inv.g hI_N_9 kd_163 rfl 10 (a := 0) (b := 900) rfl rfl
    refine kx_aload_n 31 F 0 dX12_feed_30 rfl rfl rfl ?_
    refine kx_iload 33 F 4 dX12_feed_31 rfl rfl ?_
    refine kx_Vv 36 (ci := 0) F (As := [vI a4]) (st := []) vd_X12_150 (c_X12_four G l N_9 a4 hI_N_9 (by omega)) kd_163 rfl rfl rfl ⟨by decide, by decide⟩ rfl rfl (Nat.le_of_ble_eq_true rfl) dX12_feed_33 rfl ?_
    intro N_12 q_13
    obtain ⟨hI_N_12, hG_N_12, q_13c⟩ := q_13
    have hF_N_12 : Fr f_e_X12_feed M N_12 := Fr.c hF_N_9 hG_N_12 rfl
    have h_14 := Inv.g hI_N_12 kd_163 rfl 10 (a := 0) (b := 900) rfl rfl
    refine kx_aload_n 37 F 0 dX12_feed_36 rfl rfl rfl ?_
    refine kx_iload 39 F 5 dX12_feed_37 rfl rfl ?_
    refine kx_Vv 42 (ci := 0) F (As := [vI a5]) (st := []) vd_X12_150 (c_X12_four G l N_12 a5 hI_N_12 (by omega)) kd_163 rfl rfl rfl ⟨by decide, by decide⟩ rfl rfl (Nat.le_of_ble_eq_true rfl) dX12_feed_39 rfl ?_
    intro N_15 q_16
    obtain ⟨hI_N_15, hG_N_15, q_16c⟩ := q_16
    have hF_N_15 : Fr f_e_X12_feed M N_15 := Fr.c hF_N_12 hG_N_15 rfl
    have h_17 := Inv.g hI_N_15 kd_163 rfl 10 (a := 0) (b := 900) rfl rfl
    refine kx_aload_n 43 F 0 dX12_feed_42 rfl rfl rfl ?_
    refine kx_geti 46 F fl_X12_147 kd_163 rfl rfl (j := 10) rfl dX12_feed_43 (v := (N_15 163 10)) rfl rfl ?_
    exact kx_iret F hQ ⟨hI_N_15, hF_N_15, (by omega)⟩ dX12_feed_46
  · refine kx_iconst 14 F dX12_feed_13 rfl ?_
    exact kx_iret F hQ ⟨hI_M, hF_M, (by omega)⟩ dX12_feed_14
abbrev f_e_X12_begins : List (Nat × Int) := [(64, 10), (64, 11), (64, 12), (64, 13), (64, 14), (64, 15), (64, 17), (64, 18), (64, 19), (71, -1)]
set_option maxHeartbeats 4000000 in
set_option maxRecDepth 100000 in
theorem e_X12_begins (G : KG) (l : Launch) (M : Mem) (a1 : Int) (a2 : Int) (hI_M : Inv true M) (hpre : -2147483648 ≤ a1 ∧ a1 ≤ 2147483647 ∧ -2147483648 ≤ a2 ∧ a2 ≤ 2147483647 ∧ a2 = 900) : KC true G l yX12_begins cX12_begins 4 (some .boolean) (2, 42) [vR G 163, vI a1, vI a2] M (fun A => kQi true G A (fun (r : Int) (N : Mem) => Inv true N ∧ Fr f_e_X12_begins M N ∧ ((r = 1 ∧ 0 ≤ a1 ∧ a1 ≤ (M 163 10) ∧ (N 163 10) = 0) ∨ (r = 0 ∧ a1 < 0 ∧ (N 163 10) = (M 163 10)) ∨ (r = 0 ∧ a1 > (M 163 10) ∧ (N 163 10) = (M 163 10))))) := by
  refine kx_met (lo := [some (vR G 163), some (vI a1), some (vI a2), none]) (by decide) (Nat.le_of_ble_eq_true rfl) rfl ?_
  intro X F hQ
  have hF_M : Fr f_e_X12_begins M M := Fr.rf _ _
  refine kx_iload_n 1 F 1 dX12_begins_0 rfl rfl rfl ?_
  refine kx_if_lt 4 F 17 dX12_begins_1 (by decide) rfl (by omega) (fun h_1 => ?_) (fun h_1 => ?_)
  · refine kx_iconst 18 F dX12_begins_17 rfl ?_
    have h_2 := Inv.g hI_M kd_163 rfl 10 (a := 0) (b := 900) rfl rfl
    exact kx_zret F hQ (by omega) ⟨hI_M, hF_M, (Or.inr (Or.inl (by omega)))⟩ dX12_begins_18
  · refine kx_iload_n 5 F 1 dX12_begins_4 rfl rfl rfl ?_
    refine kx_aload_n 6 F 0 dX12_begins_5 rfl rfl rfl ?_
    refine kx_geti 9 F fl_X12_147 kd_163 rfl rfl (j := 10) rfl dX12_begins_6 (v := (M 163 10)) rfl rfl ?_
    have h_3 := Inv.g hI_M kd_163 rfl 10 (a := 0) (b := 900) rfl rfl
    refine kx_icmp_gt 12 F 17 dX12_begins_9 (by decide) rfl (by omega) (by omega) (fun h_4 => ?_) (fun h_4 => ?_)
    · refine kx_iconst 18 F dX12_begins_17 rfl ?_
      exact kx_zret F hQ (by omega) ⟨hI_M, hF_M, (Or.inr (Or.inr (by omega)))⟩ dX12_begins_18
    · refine kx_iload_n 13 F 1 dX12_begins_12 rfl rfl rfl ?_
      refine kx_iload_n 14 F 2 dX12_begins_13 rfl rfl rfl ?_
      refine kx_icmp_le 17 F 19 dX12_begins_14 (by decide) rfl (by omega) (by omega) (fun h_5 => ?_) (fun h_5 => (by exfalso; omega))
      refine kx_aload_n 20 F 0 dX12_begins_19 rfl rfl rfl ?_
      refine kx_iload_n 21 F 1 dX12_begins_20 rfl rfl rfl ?_
      refine kx_puti 24 F fw_X12_153 rfl kd_163 rfl rfl (j := 11) rfl dX12_begins_21 rfl ?_
      intro N_6 hM_N_6
      have hI_N_6 : Inv true N_6 := Inv.u hI_M hM_N_6 kd_163 (a := 0) (b := 900) rfl rfl rfl (by omega)
      have hF_N_6 : Fr f_e_X12_begins M N_6 := Fr.u hF_M hM_N_6 kd_163 rfl
      refine kx_iconst 25 F dX12_begins_24 rfl ?_
      refine kx_istore_n 26 F 3 (lo' := [some (vR G 163), some (vI a1), some (vI a2), some (vI 0)]) dX12_begins_25 rfl (by decide) rfl rfl rfl ?_
      have L_177 : ∀ (n_178 : Nat) (x3_175 : Int) (N_176 : Mem), Inv true N_176 → Fr f_e_X12_begins M N_176 → 0 ≤ x3_175 ∧ x3_175 ≤ 900 → (900 - (x3_175)).toNat = n_178 → KJ true G X N_176 26 [some (vR G 163), some (vI a1), none, some (vI x3_175)] [] := by
        intro n_178
        refine Nat.strongRecOn n_178 ?_
        intro n_178 ih_179 x3_175 N_176 hI_N_176 hF_N_176 h_180 hm_181
        refine kx_iload_n 27 F 3 dX12_begins_26 rfl rfl rfl ?_
        refine kx_iload_n 28 F 1 dX12_begins_27 rfl rfl rfl ?_
        refine kx_icmp_ge 31 F 49 dX12_begins_28 (by decide) rfl (by omega) (by omega) (fun h_182 => ?_) (fun h_182 => ?_)
        · refine kx_aload_n 50 F 0 dX12_begins_49 rfl rfl rfl ?_
          refine kx_iconst 51 F dX12_begins_50 rfl ?_
          refine kx_puti 54 F fw_X12_147 rfl kd_163 rfl rfl (j := 10) rfl dX12_begins_51 rfl ?_
          intro N_183 hM_N_183
          have hI_N_183 : Inv true N_183 := Inv.u hI_N_176 hM_N_183 kd_163 (a := 0) (b := 900) rfl rfl rfl (by omega)
          have hF_N_183 : Fr f_e_X12_begins M N_183 := Fr.u hF_N_176 hM_N_183 kd_163 rfl
          refine kx_aload_n 55 F 0 dX12_begins_54 rfl rfl rfl ?_
          refine kx_iconst 56 F dX12_begins_55 rfl ?_
          refine kx_puti 59 F fw_X12_193 rfl kd_163 rfl rfl (j := 18) rfl dX12_begins_56 rfl ?_
          intro N_184 hM_N_184
          have hI_N_184 : Inv true N_184 := Inv.u hI_N_183 hM_N_184 kd_163 (a := (-2147483648)) (b := 2147483647) rfl rfl rfl (by omega)
          have hF_N_184 : Fr f_e_X12_begins M N_184 := Fr.u hF_N_183 hM_N_184 kd_163 rfl
          refine kx_aload_n 60 F 0 dX12_begins_59 rfl rfl rfl ?_
          refine kx_iconst 61 F dX12_begins_60 rfl ?_
          refine kx_puti 64 F fw_X12_41 rfl kd_163 rfl rfl (j := 17) rfl dX12_begins_61 rfl ?_
          intro N_185 hM_N_185
          have hI_N_185 : Inv true N_185 := Inv.u hI_N_184 hM_N_185 kd_163 (a := (-2147483648)) (b := 2147483647) rfl rfl rfl (by omega)
          have hF_N_185 : Fr f_e_X12_begins M N_185 := Fr.u hF_N_184 hM_N_185 kd_163 rfl
          refine kx_aload_n 65 F 0 dX12_begins_64 rfl rfl rfl ?_
          refine kx_iconst 66 F dX12_begins_65 rfl ?_
          refine kx_puti 69 F fw_X12_156 rfl kd_163 rfl rfl (j := 14) rfl dX12_begins_66 rfl ?_
          intro N_186 hM_N_186
          have hI_N_186 : Inv true N_186 := Inv.u hI_N_185 hM_N_186 kd_163 (a := 0) (b := 900) rfl rfl rfl (by omega)
          have hF_N_186 : Fr f_e_X12_begins M N_186 := Fr.u hF_N_185 hM_N_186 kd_163 rfl
          refine kx_aload_n 70 F 0 dX12_begins_69 rfl rfl rfl ?_
          refine kx_iconst 71 F dX12_begins_70 rfl ?_
          refine kx_puti 74 F fw_X12_196 rfl kd_163 rfl rfl (j := 19) rfl dX12_begins_71 rfl ?_
          intro N_187 hM_N_187
          have hI_N_187 : Inv true N_187 := Inv.u hI_N_186 hM_N_187 kd_163 (a := (-2147483648)) (b := 2147483647) rfl rfl rfl (by omega)
          have hF_N_187 : Fr f_e_X12_begins M N_187 := Fr.u hF_N_186 hM_N_187 kd_163 rfl
          refine kx_aload_n 75 F 0 dX12_begins_74 rfl rfl rfl ?_
          refine kx_Vv 78 (ci := 0) F (As := []) (st := []) vd_X12_199 (c_X12_ahead G l N_187  hI_N_187) kd_163 rfl rfl rfl ⟨by decide, by decide⟩ rfl rfl (Nat.le_of_ble_eq_true rfl) dX12_begins_75 rfl ?_
          intro N_188 q_189
          obtain ⟨hI_N_188, hG_N_188, q_189c⟩ := q_189
          have hF_N_188 : Fr f_e_X12_begins M N_188 := Fr.c hF_N_187 hG_N_188 rfl
          have h_190 := Inv.g hI_N_188 kd_163 rfl 12 (a := 0) (b := 4) rfl rfl
          have e_191 : (N_187 163 14) = 0 := by rw [hM_N_187, mu_i (by omega), hM_N_186, mu_s]
          have h_192 := Inv.g hI_N_188 kd_163 rfl 14 (a := 0) (b := 900) rfl rfl
          have h_193 := Inv.g hI_N_188 kd_163 rfl 12 (a := 0) (b := 4) rfl rfl
          have e_194 : (N_187 163 14) = 0 := by rw [hM_N_187, mu_i (by omega), hM_N_186, mu_s]
          have h_195 := Inv.g hI_N_188 kd_163 rfl 14 (a := 0) (b := 900) rfl rfl
          rcases q_189c with q_189c | q_189c
          · refine kx_iconst 79 F dX12_begins_78 rfl ?_
            have e_196 : (N_188 163 10) = 0 := by rw [Fr.e hG_N_188 kd_163 _ rfl, hM_N_187, mu_i (by omega), hM_N_186, mu_i (by omega), hM_N_185, mu_i (by omega), hM_N_184, mu_i (by omega), hM_N_183, mu_s]
            have e_197 : (N_188 163 10) = 0 := by rw [Fr.e hG_N_188 kd_163 _ rfl, hM_N_187, mu_i (by omega), hM_N_186, mu_i (by omega), hM_N_185, mu_i (by omega), hM_N_184, mu_i (by omega), hM_N_183, mu_s]
            have e_198 : (N_188 163 10) = 0 := by rw [Fr.e hG_N_188 kd_163 _ rfl, hM_N_187, mu_i (by omega), hM_N_186, mu_i (by omega), hM_N_185, mu_i (by omega), hM_N_184, mu_i (by omega), hM_N_183, mu_s]
            exact kx_zret F hQ (by omega) ⟨hI_N_188, hF_N_188, (Or.inl (by omega))⟩ dX12_begins_79
          · refine kx_iconst 79 F dX12_begins_78 rfl ?_
            have e_199 : (N_188 163 10) = 0 := by rw [Fr.e hG_N_188 kd_163 _ rfl, hM_N_187, mu_i (by omega), hM_N_186, mu_i (by omega), hM_N_185, mu_i (by omega), hM_N_184, mu_i (by omega), hM_N_183, mu_s]
            have e_200 : (N_188 163 10) = 0 := by rw [Fr.e hG_N_188 kd_163 _ rfl, hM_N_187, mu_i (by omega), hM_N_186, mu_i (by omega), hM_N_185, mu_i (by omega), hM_N_184, mu_i (by omega), hM_N_183, mu_s]
            have e_201 : (N_188 163 10) = 0 := by rw [Fr.e hG_N_188 kd_163 _ rfl, hM_N_187, mu_i (by omega), hM_N_186, mu_i (by omega), hM_N_185, mu_i (by omega), hM_N_184, mu_i (by omega), hM_N_183, mu_s]
            exact kx_zret F hQ (by omega) ⟨hI_N_188, hF_N_188, (Or.inl (by omega))⟩ dX12_begins_79
        · refine kx_aload_n 32 F 0 dX12_begins_31 rfl rfl rfl ?_
          refine kx_getr 35 F fl_X12_34 kd_163 rfl rfl (j := 9) rfl dX12_begins_32 (v := 170) (uq_170 (Inv.r hI_N_176 kd_163 rfl 9 rfl rfl)) rfl ?_
          refine kx_iload_n 36 F 3 dX12_begins_35 rfl rfl rfl ?_
          refine kx_aload_n 37 F 0 dX12_begins_36 rfl rfl rfl ?_
          refine kx_getr 40 F fl_X12_30 kd_163 rfl rfl (j := 8) rfl dX12_begins_37 (v := 169) (uq_169 (Inv.r hI_N_176 kd_163 rfl 8 rfl rfl)) rfl ?_
          refine kx_iload_n 41 F 3 dX12_begins_40 rfl rfl rfl ?_
          refine kx_bald 42 F kd_169 rfl rfl (by omega) (by decide) dX12_begins_41 (v := (M 169 x3_175)) (by rw [Fr.e hF_N_176 kd_169 _ rfl]) rfl ?_
          have h_202 := Inv.g hI_M kd_169 rfl x3_175 (a := (-128)) (b := 127) rfl rfl
          refine kx_bast 43 F (by omega) kd_170 rfl rfl (by omega) (by decide) dX12_begins_42 rfl ?_
          intro N_203 hM_N_203
          have hI_N_203 : Inv true N_203 := Inv.u hI_N_176 hM_N_203 kd_170 (a := (-128)) (b := 127) rfl rfl rfl (by omega)
          have hF_N_203 : Fr f_e_X12_begins M N_203 := Fr.u hF_N_176 hM_N_203 kd_170 rfl
          refine kx_iinc 46 F 3 (v := x3_175 + 1) (lo' := [some (vR G 163), some (vI a1), none, some (vI (x3_175 + 1))]) dX12_begins_43 rfl (by omega) (by decide) rfl rfl rfl ?_
          refine kx_goto 26 F dX12_begins_46 (by decide) ?_
          exact ih_179 _ (by omega) (x3_175 + 1) N_203 hI_N_203 hF_N_203 (by omega) rfl
      refine kx_drop 2 (lo' := [some (vR G 163), some (vI a1), none, some (vI 0)]) rfl ?_
      exact L_177 _ 0 N_6 hI_N_6 hF_N_6 (by omega) rfl
abbrev f_e_X12_checker : List (Nat × Int) := [(64, 2), (64, 10), (64, 11), (64, 12), (64, 13), (64, 14), (64, 15), (64, 16), (64, 17), (64, 18), (64, 19), (65, -1), (66, -1), (71, -1)]
set_option maxHeartbeats 4000000 in
set_option maxRecDepth 100000 in
theorem e_X12_checker (G : KG) (l : Launch) (M : Mem) (a1 : Int) (hI_M : Inv true M) (hpre : -2147483648 ≤ a1 ∧ a1 ≤ 2147483647) (hY : YY M) : KC true G l yX12_checker cX12_checker 4 (some .int) (8, 181) [vR G 163, vI a1] M (fun A => kQi true G A (fun (r : Int) (N : Mem) => Inv true N ∧ Fr f_e_X12_checker M N ∧ ((a1 < 0 ∧ (N 163 10) = (M 163 10)) ∨ (a1 > (M 163 10) ∧ (N 163 10) = (M 163 10)) ∨ (a1 ≥ 0 ∧ a1 ≤ (M 163 10) ∧ (N 163 10) = 0)) ∧ (YY N))) := by
  refine kx_met (lo := [some (vR G 163), some (vI a1), none, none]) (by decide) (Nat.le_of_ble_eq_true rfl) rfl ?_
  intro X F hQ
  have hF_M : Fr f_e_X12_checker M M := Fr.rf _ _
  refine kx_aload_n 1 F 0 dX12_checker_0 rfl rfl rfl ?_
  refine kx_iload_n 2 F 1 dX12_checker_1 rfl rfl rfl ?_
  refine kx_sipush 5 F dX12_checker_2 (by decide) rfl ?_
  refine kx_Vi 8 (ci := 0) F (As := [vI a1, vI 900]) (st := []) vd_X12_273 (e_X12_begins G l M a1 900 hI_M (by omega)) kd_163 rfl rfl rfl ⟨by decide, by decide⟩ rfl rfl (Nat.le_of_ble_eq_true rfl) dX12_checker_5 rfl ?_
  intro r_1 N_2 q_3
  obtain ⟨hI_N_2, hG_N_2, q_3c⟩ := q_3
  have hF_N_2 : Fr f_e_X12_checker M N_2 := Fr.c hF_M hG_N_2 rfl
  have h_4 := Inv.g hI_M kd_163 rfl 10 (a := 0) (b := 900) rfl rfl
  have h_5 := Inv.g hI_N_2 kd_163 rfl 10 (a := 0) (b := 900) rfl rfl
  have h_6 := Inv.g hI_M kd_163 rfl 10 (a := 0) (b := 900) rfl rfl
  have h_7 := Inv.g hI_N_2 kd_163 rfl 10 (a := 0) (b := 900) rfl rfl
  have h_8 := Inv.g hI_M kd_163 rfl 10 (a := 0) (b := 900) rfl rfl
  have h_9 := Inv.g hI_N_2 kd_163 rfl 10 (a := 0) (b := 900) rfl rfl
  rcases q_3c with q_3c | q_3c | q_3c
  · refine kx_if_ne 11 F 17 dX12_checker_8 (by decide) rfl (by omega) (fun h_10 => ?_) (fun h_10 => (by exfalso; omega))
    refine kx_aload_n 18 F 0 dX12_checker_17 rfl rfl rfl ?_
    refine kx_sipush 21 F dX12_checker_18 (by decide) rfl ?_
    refine kx_Vv 24 (ci := 0) F (As := [vI 1088]) (st := []) vd_X12_113 (c_plainN G l N_2 1088 hI_N_2 (by omega)) kd_163 rfl rfl rfl ⟨by decide, by decide⟩ rfl rfl (Nat.le_of_ble_eq_true rfl) dX12_checker_21 rfl ?_
    intro N_11 q_12
    obtain ⟨hI_N_11, hG_N_11, hl_N_11⟩ := q_12
    have hF_N_11 : Fr f_e_X12_checker M N_11 := Fr.c hF_N_2 hG_N_11 rfl
    refine kx_iconst 25 F dX12_checker_24 rfl ?_
    refine kx_istore_n 26 F 2 (lo' := [some (vR G 163), some (vI a1), some (vI 1), none]) dX12_checker_25 rfl (by decide) rfl rfl rfl ?_
    have L_622 : ∀ (n_623 : Nat) (x2_620 : Int) (N_621 : Mem), Inv true N_621 → Fr f_e_X12_checker M N_621 → LO N_621 M → GR N_621 x2_620 → 0 ≤ x2_620 ∧ x2_620 ≤ 1 ∧ (N_621 163 14) ≤ 900 ∧ (N_621 163 12) ≥ 0 ∧ (N_621 163 12) ≤ 4 ∧ (N_621 163 10) = 0 → (5 * (900 - N_621 163 14) + N_621 163 12 + x2_620).toNat = n_623 → KJ true G X N_621 26 [some (vR G 163), none, some (vI x2_620), none] [] := by
      intro n_623
      refine Nat.strongRecOn n_623 ?_
      intro n_623 ih_624 x2_620 N_621 hI_N_621 hF_N_621 hp_627 hp_628 h_625 hm_626
      refine kx_iload_n 27 F 2 dX12_checker_26 rfl rfl rfl ?_
      refine kx_if_eq 30 F 45 dX12_checker_27 (by decide) rfl (by omega) (fun h_629 => ?_) (fun h_629 => ?_)
      · have h_630 : ¬ x2_620 = 1 → ¬ N_621 163 18 = 0 := hp_628.2
        refine kx_aload_n 46 F 0 dX12_checker_45 rfl rfl rfl ?_
        refine kx_geti 49 F fl_X12_193 kd_163 rfl rfl (j := 18) rfl dX12_checker_46 (v := (N_621 163 18)) rfl rfl ?_
        have h_631 := Inv.g hI_N_621 kd_163 rfl 18 (a := (-2147483648)) (b := 2147483647) rfl rfl
        refine kx_if_ne 52 F 112 dX12_checker_49 (by decide) rfl (by omega) (fun h_632 => ?_) (fun h_632 => ?_)
        · refine kx_aload_n 113 F 0 dX12_checker_112 rfl rfl rfl ?_
          refine kx_aload_n 114 F 0 dX12_checker_113 rfl rfl rfl ?_
          refine kx_getr 117 F fl_X12_7 kd_163 rfl rfl (j := 0) rfl dX12_checker_114 (v := 164) (uq_164 (Inv.r hI_N_621 kd_163 rfl 0 rfl rfl)) rfl ?_
          refine kx_iconst 118 F dX12_checker_117 rfl ?_
          refine kx_iald 119 F kd_164 rfl rfl (by omega) (by decide) dX12_checker_118 (v := (N_621 164 3)) rfl rfl ?_
          have ha_633 : atlo 3 = 0 ∧ athi 3 = 2 := at_c 3 0 (o := 3) (lo := 0) (hi := 2) (by omega) (by decide) (by decide) (by decide)
          have h_634 := Inv.g hI_N_621 kd_164 rfl 3 (a := 0) (b := 2) ha_633.1 ha_633.2
          refine kx_Vi 122 (ci := 0) F (As := [vI (N_621 164 3)]) (st := []) vd_X12_279 (c_X12_taken G l N_621 (N_621 164 3) hI_N_621 (by omega)) kd_163 rfl rfl rfl ⟨by decide, by decide⟩ rfl rfl (Nat.le_of_ble_eq_true rfl) dX12_checker_119 rfl ?_
          intro r_635 N_636 q_637
          obtain ⟨hI_N_636, hG_N_636, q_637c⟩ := q_637
          have hF_N_636 : Fr f_e_X12_checker M N_636 := Fr.c hF_N_621 hG_N_636 rfl
          have e_638 : (N_636 163 10) = (N_621 163 10) := by rw [Fr.e hG_N_636 kd_163 _ rfl]
          have h_639 := Inv.g hI_N_621 kd_163 rfl 10 (a := 0) (b := 900) rfl rfl
          have e_640 : (N_636 163 10) = (N_621 163 10) := by rw [Fr.e hG_N_636 kd_163 _ rfl]
          have e_641 : (N_636 163 10) = (N_621 163 10) := by rw [Fr.e hG_N_636 kd_163 _ rfl]
          exact kx_iret F hQ ⟨hI_N_636, hF_N_636, (Or.inr (Or.inr (by omega))), (YY.fr (YY.lo hY hI_M hp_627) hG_N_636 rfl)⟩ dX12_checker_122
        · refine kx_iconst 53 F dX12_checker_52 rfl ?_
          refine kx_istore_n 54 F 3 (lo' := [some (vR G 163), none, some (vI x2_620), some (vI 0)]) dX12_checker_53 rfl (by decide) rfl rfl rfl ?_
          have L_842 : ∀ (n_843 : Nat) (x3_840 : Int) (N_841 : Mem), Inv true N_841 → Fr f_e_X12_checker M N_841 → CPk N_841 N_621 0 1088 x3_840 → 0 ≤ x3_840 ∧ x3_840 ≤ 272 ∧ (N_841 163 10) = 0 → (272 - (x3_840)).toNat = n_843 → KJ true G X N_841 54 [some (vR G 163), none, none, some (vI x3_840)] [] := by
            intro n_843
            refine Nat.strongRecOn n_843 ?_
            intro n_843 ih_844 x3_840 N_841 hI_N_841 hF_N_841 hp_847 h_845 hm_846
            refine kx_iload_n 55 F 3 dX12_checker_54 rfl rfl rfl ?_
            refine kx_sipush 58 F dX12_checker_55 (by decide) rfl ?_
            refine kx_icmp_ge 61 F 83 dX12_checker_58 (by decide) rfl (by omega) (by decide) (fun h_848 => ?_) (fun h_848 => ?_)
            · refine kx_iconst 84 F dX12_checker_83 rfl ?_
              refine kx_istore_n 85 F 3 (lo' := [some (vR G 163), none, none, some (vI 0)]) dX12_checker_84 rfl (by decide) rfl rfl rfl ?_
              have L_904 : ∀ (n_905 : Nat) (x3_902 : Int) (N_903 : Mem), Inv true N_903 → Fr f_e_X12_checker M N_903 → YY N_903 → 0 ≤ x3_902 ∧ x3_902 ≤ 6 ∧ (N_903 163 10) = 0 → (6 - (x3_902)).toNat = n_905 → KJ true G X N_903 85 [some (vR G 163), none, none, some (vI x3_902)] [] := by
                intro n_905
                refine Nat.strongRecOn n_905 ?_
                intro n_905 ih_906 x3_902 N_903 hI_N_903 hF_N_903 hp_909 h_907 hm_908
                refine kx_iload_n 86 F 3 dX12_checker_85 rfl rfl rfl ?_
                refine kx_bipush 88 F dX12_checker_86 (by decide) rfl ?_
                refine kx_icmp_ge 91 F 112 dX12_checker_88 (by decide) rfl (by omega) (by decide) (fun h_910 => ?_) (fun h_910 => ?_)
                · refine kx_aload_n 113 F 0 dX12_checker_112 rfl rfl rfl ?_
                  refine kx_aload_n 114 F 0 dX12_checker_113 rfl rfl rfl ?_
                  refine kx_getr 117 F fl_X12_7 kd_163 rfl rfl (j := 0) rfl dX12_checker_114 (v := 164) (uq_164 (Inv.r hI_N_903 kd_163 rfl 0 rfl rfl)) rfl ?_
                  refine kx_iconst 118 F dX12_checker_117 rfl ?_
                  refine kx_iald 119 F kd_164 rfl rfl (by omega) (by decide) dX12_checker_118 (v := (N_903 164 3)) rfl rfl ?_
                  have ha_911 : atlo 3 = 0 ∧ athi 3 = 2 := at_c 3 0 (o := 3) (lo := 0) (hi := 2) (by omega) (by decide) (by decide) (by decide)
                  have h_912 := Inv.g hI_N_903 kd_164 rfl 3 (a := 0) (b := 2) ha_911.1 ha_911.2
                  refine kx_Vi 122 (ci := 0) F (As := [vI (N_903 164 3)]) (st := []) vd_X12_279 (c_X12_taken G l N_903 (N_903 164 3) hI_N_903 (by omega)) kd_163 rfl rfl rfl ⟨by decide, by decide⟩ rfl rfl (Nat.le_of_ble_eq_true rfl) dX12_checker_119 rfl ?_
                  intro r_913 N_914 q_915
                  obtain ⟨hI_N_914, hG_N_914, q_915c⟩ := q_915
                  have hF_N_914 : Fr f_e_X12_checker M N_914 := Fr.c hF_N_903 hG_N_914 rfl
                  have e_916 : (N_914 163 10) = (N_903 163 10) := by rw [Fr.e hG_N_914 kd_163 _ rfl]
                  have h_917 := Inv.g hI_N_903 kd_163 rfl 10 (a := 0) (b := 900) rfl rfl
                  have e_918 : (N_914 163 10) = (N_903 163 10) := by rw [Fr.e hG_N_914 kd_163 _ rfl]
                  have e_919 : (N_914 163 10) = (N_903 163 10) := by rw [Fr.e hG_N_914 kd_163 _ rfl]
                  exact kx_iret F hQ ⟨hI_N_914, hF_N_914, (Or.inr (Or.inr (by omega))), (YY.fr hp_909 hG_N_914 rfl)⟩ dX12_checker_122
                · refine kx_aload_n 92 F 0 dX12_checker_91 rfl rfl rfl ?_
                  refine kx_getr 95 F fl_X12_13 kd_163 rfl rfl (j := 1) rfl dX12_checker_92 (v := 165) (uq_165 (Inv.r hI_N_903 kd_163 rfl 1 rfl rfl)) rfl ?_
                  refine kx_iload_n 96 F 3 dX12_checker_95 rfl rfl rfl ?_
                  refine kx_aload_n 97 F 0 dX12_checker_96 rfl rfl rfl ?_
                  refine kx_getr 100 F fl_X12_13 kd_163 rfl rfl (j := 1) rfl dX12_checker_97 (v := 165) (uq_165 (Inv.r hI_N_903 kd_163 rfl 1 rfl rfl)) rfl ?_
                  refine kx_bipush 102 F dX12_checker_100 (by decide) rfl ?_
                  refine kx_iload_n 103 F 3 dX12_checker_102 rfl rfl rfl ?_
                  refine kx_iadd 104 F (v := x3_902 + 24) dX12_checker_103 (by omega) rfl ?_
                  refine kx_lald 105 F kd_165 rfl rfl (by omega) (by decide) dX12_checker_104 (v := (N_903 165 (x3_902 + 24))) rfl rfl ?_
                  have h_920 := Inv.g hI_N_903 kd_165 rfl (x3_902 + 24) (a := (-9223372036854775808)) (b := 9223372036854775807) rfl rfl
                  refine kx_last 106 F kd_165 rfl rfl (by omega) (by decide) dX12_checker_105 rfl ?_
                  intro N_921 hM_N_921
                  have hI_N_921 : Inv true N_921 := Inv.u hI_N_903 hM_N_921 kd_165 (a := (-9223372036854775808)) (b := 9223372036854775807) rfl rfl rfl (by omega)
                  have hF_N_921 : Fr f_e_X12_checker M N_921 := Fr.u hF_N_903 hM_N_921 kd_165 rfl
                  refine kx_iinc 109 F 3 (v := x3_902 + 1) (lo' := [some (vR G 163), none, none, some (vI (x3_902 + 1))]) dX12_checker_106 rfl (by omega) (by decide) rfl rfl rfl ?_
                  refine kx_goto 85 F dX12_checker_109 (by decide) ?_
                  have e_922 : (N_921 163 10) = (N_903 163 10) := by rw [hM_N_921, mu_k kd_163 kd_165 rfl]
                  have h_923 := Inv.g hI_N_903 kd_163 rfl 10 (a := 0) (b := 900) rfl rfl
                  exact ih_906 _ (by omega) (x3_902 + 1) N_921 hI_N_921 hF_N_921 (YY.st hp_909 hM_N_921 kd_165 rfl) (by omega) rfl
              have h_924 := Inv.g hI_N_841 kd_163 rfl 10 (a := 0) (b := 900) rfl rfl
              exact L_904 _ 0 N_841 hI_N_841 hF_N_841 (YY.slot4 (YY.lo hY hI_M hp_627) hI_N_621 (hp_628.1 (by omega)) (hp_847.at (by omega))) (by omega) rfl
            · refine kx_aload_n 62 F 0 dX12_checker_61 rfl rfl rfl ?_
              refine kx_getr 65 F fl_X12_7 kd_163 rfl rfl (j := 0) rfl dX12_checker_62 (v := 164) (uq_164 (Inv.r hI_N_841 kd_163 rfl 0 rfl rfl)) rfl ?_
              refine kx_iload_n 66 F 3 dX12_checker_65 rfl rfl rfl ?_
              refine kx_aload_n 67 F 0 dX12_checker_66 rfl rfl rfl ?_
              refine kx_getr 70 F fl_X12_7 kd_163 rfl rfl (j := 0) rfl dX12_checker_67 (v := 164) (uq_164 (Inv.r hI_N_841 kd_163 rfl 0 rfl rfl)) rfl ?_
              refine kx_sipush 73 F dX12_checker_70 (by decide) rfl ?_
              refine kx_iload_n 74 F 3 dX12_checker_73 rfl rfl rfl ?_
              refine kx_iadd 75 F (v := x3_840 + 1088) dX12_checker_74 (by omega) rfl ?_
              refine kx_iald 76 F kd_164 rfl rfl (by omega) (by decide) dX12_checker_75 (v := (N_841 164 (x3_840 + 1088))) rfl rfl ?_
              have h_925 := Inv.g hI_N_841 kd_164 rfl (x3_840 + 1088) (a := atlo (x3_840 + 1088)) (b := athi (x3_840 + 1088)) rfl rfl
              have h_926 := at_w (x3_840 + 1088)
              refine kx_iast 77 F kd_164 rfl rfl (by omega) (by decide) dX12_checker_76 rfl ?_
              intro N_927 hM_N_927
              have h_928 := at_0 x3_840
              have h_929 := at_q x3_840 (x3_840 + 1088) (by omega)
              have hI_N_927 : Inv true N_927 := Inv.u hI_N_841 hM_N_927 kd_164 (a := atlo x3_840) (b := athi x3_840) rfl rfl rfl (by omega)
              have hF_N_927 : Fr f_e_X12_checker M N_927 := Fr.u hF_N_841 hM_N_927 kd_164 rfl
              refine kx_iinc 80 F 3 (v := x3_840 + 1) (lo' := [some (vR G 163), none, none, some (vI (x3_840 + 1))]) dX12_checker_77 rfl (by omega) (by decide) rfl rfl rfl ?_
              refine kx_goto 54 F dX12_checker_80 (by decide) ?_
              have e_930 : (N_927 163 10) = (N_841 163 10) := by rw [hM_N_927, mu_k kd_163 kd_164 rfl]
              have h_931 := Inv.g hI_N_841 kd_163 rfl 10 (a := 0) (b := 900) rfl rfl
              exact ih_844 _ (by omega) (x3_840 + 1) N_927 hI_N_927 hF_N_927 (CPk.step hp_847 (by omega) hM_N_927 (by omega) rfl (by omega) (by omega) (by omega)) (by omega) rfl
          refine kx_drop 2 (lo' := [some (vR G 163), none, none, some (vI 0)]) rfl ?_
          have h_932 := Inv.g hI_N_621 kd_163 rfl 10 (a := 0) (b := 900) rfl rfl
          exact L_842 _ 0 N_621 hI_N_621 hF_N_621 ((CPk.nil _ _).at (by omega)) (by omega) rfl
      · refine kx_aload_n 31 F 0 dX12_checker_30 rfl rfl rfl ?_
        refine kx_geti 34 F fl_X12_168 kd_163 rfl rfl (j := 12) rfl dX12_checker_31 (v := (N_621 163 12)) rfl rfl ?_
        have h_933 := Inv.g hI_N_621 kd_163 rfl 12 (a := 0) (b := 4) rfl rfl
        refine kx_if_eq 37 F 45 dX12_checker_34 (by decide) rfl (by omega) (fun h_934 => ?_) (fun h_934 => ?_)
        · have h_935 : ¬ x2_620 = 1 → ¬ N_621 163 18 = 0 := hp_628.2
          refine kx_aload_n 46 F 0 dX12_checker_45 rfl rfl rfl ?_
          refine kx_geti 49 F fl_X12_193 kd_163 rfl rfl (j := 18) rfl dX12_checker_46 (v := (N_621 163 18)) rfl rfl ?_
          have h_936 := Inv.g hI_N_621 kd_163 rfl 18 (a := (-2147483648)) (b := 2147483647) rfl rfl
          refine kx_if_ne 52 F 112 dX12_checker_49 (by decide) rfl (by omega) (fun h_937 => ?_) (fun h_937 => ?_)
          · refine kx_aload_n 113 F 0 dX12_checker_112 rfl rfl rfl ?_
            refine kx_aload_n 114 F 0 dX12_checker_113 rfl rfl rfl ?_
            refine kx_getr 117 F fl_X12_7 kd_163 rfl rfl (j := 0) rfl dX12_checker_114 (v := 164) (uq_164 (Inv.r hI_N_621 kd_163 rfl 0 rfl rfl)) rfl ?_
            refine kx_iconst 118 F dX12_checker_117 rfl ?_
            refine kx_iald 119 F kd_164 rfl rfl (by omega) (by decide) dX12_checker_118 (v := (N_621 164 3)) rfl rfl ?_
            have ha_938 : atlo 3 = 0 ∧ athi 3 = 2 := at_c 3 0 (o := 3) (lo := 0) (hi := 2) (by omega) (by decide) (by decide) (by decide)
            have h_939 := Inv.g hI_N_621 kd_164 rfl 3 (a := 0) (b := 2) ha_938.1 ha_938.2
            refine kx_Vi 122 (ci := 0) F (As := [vI (N_621 164 3)]) (st := []) vd_X12_279 (c_X12_taken G l N_621 (N_621 164 3) hI_N_621 (by omega)) kd_163 rfl rfl rfl ⟨by decide, by decide⟩ rfl rfl (Nat.le_of_ble_eq_true rfl) dX12_checker_119 rfl ?_
            intro r_940 N_941 q_942
            obtain ⟨hI_N_941, hG_N_941, q_942c⟩ := q_942
            have hF_N_941 : Fr f_e_X12_checker M N_941 := Fr.c hF_N_621 hG_N_941 rfl
            have e_943 : (N_941 163 10) = (N_621 163 10) := by rw [Fr.e hG_N_941 kd_163 _ rfl]
            have h_944 := Inv.g hI_N_621 kd_163 rfl 10 (a := 0) (b := 900) rfl rfl
            have e_945 : (N_941 163 10) = (N_621 163 10) := by rw [Fr.e hG_N_941 kd_163 _ rfl]
            have e_946 : (N_941 163 10) = (N_621 163 10) := by rw [Fr.e hG_N_941 kd_163 _ rfl]
            exact kx_iret F hQ ⟨hI_N_941, hF_N_941, (Or.inr (Or.inr (by omega))), (YY.fr (YY.lo hY hI_M hp_627) hG_N_941 rfl)⟩ dX12_checker_122
          · refine kx_iconst 53 F dX12_checker_52 rfl ?_
            refine kx_istore_n 54 F 3 (lo' := [some (vR G 163), none, some (vI x2_620), some (vI 0)]) dX12_checker_53 rfl (by decide) rfl rfl rfl ?_
            have L_1147 : ∀ (n_1148 : Nat) (x3_1145 : Int) (N_1146 : Mem), Inv true N_1146 → Fr f_e_X12_checker M N_1146 → CPk N_1146 N_621 0 1088 x3_1145 → 0 ≤ x3_1145 ∧ x3_1145 ≤ 272 ∧ (N_1146 163 10) = 0 → (272 - (x3_1145)).toNat = n_1148 → KJ true G X N_1146 54 [some (vR G 163), none, none, some (vI x3_1145)] [] := by
              intro n_1148
              refine Nat.strongRecOn n_1148 ?_
              intro n_1148 ih_1149 x3_1145 N_1146 hI_N_1146 hF_N_1146 hp_1152 h_1150 hm_1151
              refine kx_iload_n 55 F 3 dX12_checker_54 rfl rfl rfl ?_
              refine kx_sipush 58 F dX12_checker_55 (by decide) rfl ?_
              refine kx_icmp_ge 61 F 83 dX12_checker_58 (by decide) rfl (by omega) (by decide) (fun h_1153 => ?_) (fun h_1153 => ?_)
              · refine kx_iconst 84 F dX12_checker_83 rfl ?_
                refine kx_istore_n 85 F 3 (lo' := [some (vR G 163), none, none, some (vI 0)]) dX12_checker_84 rfl (by decide) rfl rfl rfl ?_
                have L_1209 : ∀ (n_1210 : Nat) (x3_1207 : Int) (N_1208 : Mem), Inv true N_1208 → Fr f_e_X12_checker M N_1208 → YY N_1208 → 0 ≤ x3_1207 ∧ x3_1207 ≤ 6 ∧ (N_1208 163 10) = 0 → (6 - (x3_1207)).toNat = n_1210 → KJ true G X N_1208 85 [some (vR G 163), none, none, some (vI x3_1207)] [] := by
                  intro n_1210
                  refine Nat.strongRecOn n_1210 ?_
                  intro n_1210 ih_1211 x3_1207 N_1208 hI_N_1208 hF_N_1208 hp_1214 h_1212 hm_1213
                  refine kx_iload_n 86 F 3 dX12_checker_85 rfl rfl rfl ?_
                  refine kx_bipush 88 F dX12_checker_86 (by decide) rfl ?_
                  refine kx_icmp_ge 91 F 112 dX12_checker_88 (by decide) rfl (by omega) (by decide) (fun h_1215 => ?_) (fun h_1215 => ?_)
                  · refine kx_aload_n 113 F 0 dX12_checker_112 rfl rfl rfl ?_
                    refine kx_aload_n 114 F 0 dX12_checker_113 rfl rfl rfl ?_
                    refine kx_getr 117 F fl_X12_7 kd_163 rfl rfl (j := 0) rfl dX12_checker_114 (v := 164) (uq_164 (Inv.r hI_N_1208 kd_163 rfl 0 rfl rfl)) rfl ?_
                    refine kx_iconst 118 F dX12_checker_117 rfl ?_
                    refine kx_iald 119 F kd_164 rfl rfl (by omega) (by decide) dX12_checker_118 (v := (N_1208 164 3)) rfl rfl ?_
                    have ha_1216 : atlo 3 = 0 ∧ athi 3 = 2 := at_c 3 0 (o := 3) (lo := 0) (hi := 2) (by omega) (by decide) (by decide) (by decide)
                    have h_1217 := Inv.g hI_N_1208 kd_164 rfl 3 (a := 0) (b := 2) ha_1216.1 ha_1216.2
                    refine kx_Vi 122 (ci := 0) F (As := [vI (N_1208 164 3)]) (st := []) vd_X12_279 (c_X12_taken G l N_1208 (N_1208 164 3) hI_N_1208 (by omega)) kd_163 rfl rfl rfl ⟨by decide, by decide⟩ rfl rfl (Nat.le_of_ble_eq_true rfl) dX12_checker_119 rfl ?_
                    intro r_1218 N_1219 q_1220
                    obtain ⟨hI_N_1219, hG_N_1219, q_1220c⟩ := q_1220
                    have hF_N_1219 : Fr f_e_X12_checker M N_1219 := Fr.c hF_N_1208 hG_N_1219 rfl
                    have e_1221 : (N_1219 163 10) = (N_1208 163 10) := by rw [Fr.e hG_N_1219 kd_163 _ rfl]
                    have h_1222 := Inv.g hI_N_1208 kd_163 rfl 10 (a := 0) (b := 900) rfl rfl
                    have e_1223 : (N_1219 163 10) = (N_1208 163 10) := by rw [Fr.e hG_N_1219 kd_163 _ rfl]
                    have e_1224 : (N_1219 163 10) = (N_1208 163 10) := by rw [Fr.e hG_N_1219 kd_163 _ rfl]
                    exact kx_iret F hQ ⟨hI_N_1219, hF_N_1219, (Or.inr (Or.inr (by omega))), (YY.fr hp_1214 hG_N_1219 rfl)⟩ dX12_checker_122
                  · refine kx_aload_n 92 F 0 dX12_checker_91 rfl rfl rfl ?_
                    refine kx_getr 95 F fl_X12_13 kd_163 rfl rfl (j := 1) rfl dX12_checker_92 (v := 165) (uq_165 (Inv.r hI_N_1208 kd_163 rfl 1 rfl rfl)) rfl ?_
                    refine kx_iload_n 96 F 3 dX12_checker_95 rfl rfl rfl ?_
                    refine kx_aload_n 97 F 0 dX12_checker_96 rfl rfl rfl ?_
                    refine kx_getr 100 F fl_X12_13 kd_163 rfl rfl (j := 1) rfl dX12_checker_97 (v := 165) (uq_165 (Inv.r hI_N_1208 kd_163 rfl 1 rfl rfl)) rfl ?_
                    refine kx_bipush 102 F dX12_checker_100 (by decide) rfl ?_
                    refine kx_iload_n 103 F 3 dX12_checker_102 rfl rfl rfl ?_
                    refine kx_iadd 104 F (v := x3_1207 + 24) dX12_checker_103 (by omega) rfl ?_
                    refine kx_lald 105 F kd_165 rfl rfl (by omega) (by decide) dX12_checker_104 (v := (N_1208 165 (x3_1207 + 24))) rfl rfl ?_
                    have h_1225 := Inv.g hI_N_1208 kd_165 rfl (x3_1207 + 24) (a := (-9223372036854775808)) (b := 9223372036854775807) rfl rfl
                    refine kx_last 106 F kd_165 rfl rfl (by omega) (by decide) dX12_checker_105 rfl ?_
                    intro N_1226 hM_N_1226
                    have hI_N_1226 : Inv true N_1226 := Inv.u hI_N_1208 hM_N_1226 kd_165 (a := (-9223372036854775808)) (b := 9223372036854775807) rfl rfl rfl (by omega)
                    have hF_N_1226 : Fr f_e_X12_checker M N_1226 := Fr.u hF_N_1208 hM_N_1226 kd_165 rfl
                    refine kx_iinc 109 F 3 (v := x3_1207 + 1) (lo' := [some (vR G 163), none, none, some (vI (x3_1207 + 1))]) dX12_checker_106 rfl (by omega) (by decide) rfl rfl rfl ?_
                    refine kx_goto 85 F dX12_checker_109 (by decide) ?_
                    have e_1227 : (N_1226 163 10) = (N_1208 163 10) := by rw [hM_N_1226, mu_k kd_163 kd_165 rfl]
                    have h_1228 := Inv.g hI_N_1208 kd_163 rfl 10 (a := 0) (b := 900) rfl rfl
                    exact ih_1211 _ (by omega) (x3_1207 + 1) N_1226 hI_N_1226 hF_N_1226 (YY.st hp_1214 hM_N_1226 kd_165 rfl) (by omega) rfl
                have h_1229 := Inv.g hI_N_1146 kd_163 rfl 10 (a := 0) (b := 900) rfl rfl
                exact L_1209 _ 0 N_1146 hI_N_1146 hF_N_1146 (YY.slot4 (YY.lo hY hI_M hp_627) hI_N_621 (hp_628.1 (by omega)) (hp_1152.at (by omega))) (by omega) rfl
              · refine kx_aload_n 62 F 0 dX12_checker_61 rfl rfl rfl ?_
                refine kx_getr 65 F fl_X12_7 kd_163 rfl rfl (j := 0) rfl dX12_checker_62 (v := 164) (uq_164 (Inv.r hI_N_1146 kd_163 rfl 0 rfl rfl)) rfl ?_
                refine kx_iload_n 66 F 3 dX12_checker_65 rfl rfl rfl ?_
                refine kx_aload_n 67 F 0 dX12_checker_66 rfl rfl rfl ?_
                refine kx_getr 70 F fl_X12_7 kd_163 rfl rfl (j := 0) rfl dX12_checker_67 (v := 164) (uq_164 (Inv.r hI_N_1146 kd_163 rfl 0 rfl rfl)) rfl ?_
                refine kx_sipush 73 F dX12_checker_70 (by decide) rfl ?_
                refine kx_iload_n 74 F 3 dX12_checker_73 rfl rfl rfl ?_
                refine kx_iadd 75 F (v := x3_1145 + 1088) dX12_checker_74 (by omega) rfl ?_
                refine kx_iald 76 F kd_164 rfl rfl (by omega) (by decide) dX12_checker_75 (v := (N_1146 164 (x3_1145 + 1088))) rfl rfl ?_
                have h_1230 := Inv.g hI_N_1146 kd_164 rfl (x3_1145 + 1088) (a := atlo (x3_1145 + 1088)) (b := athi (x3_1145 + 1088)) rfl rfl
                have h_1231 := at_w (x3_1145 + 1088)
                refine kx_iast 77 F kd_164 rfl rfl (by omega) (by decide) dX12_checker_76 rfl ?_
                intro N_1232 hM_N_1232
                have h_1233 := at_0 x3_1145
                have h_1234 := at_q x3_1145 (x3_1145 + 1088) (by omega)
                have hI_N_1232 : Inv true N_1232 := Inv.u hI_N_1146 hM_N_1232 kd_164 (a := atlo x3_1145) (b := athi x3_1145) rfl rfl rfl (by omega)
                have hF_N_1232 : Fr f_e_X12_checker M N_1232 := Fr.u hF_N_1146 hM_N_1232 kd_164 rfl
                refine kx_iinc 80 F 3 (v := x3_1145 + 1) (lo' := [some (vR G 163), none, none, some (vI (x3_1145 + 1))]) dX12_checker_77 rfl (by omega) (by decide) rfl rfl rfl ?_
                refine kx_goto 54 F dX12_checker_80 (by decide) ?_
                have e_1235 : (N_1232 163 10) = (N_1146 163 10) := by rw [hM_N_1232, mu_k kd_163 kd_164 rfl]
                have h_1236 := Inv.g hI_N_1146 kd_163 rfl 10 (a := 0) (b := 900) rfl rfl
                exact ih_1149 _ (by omega) (x3_1145 + 1) N_1232 hI_N_1232 hF_N_1232 (CPk.step hp_1152 (by omega) hM_N_1232 (by omega) rfl (by omega) (by omega) (by omega)) (by omega) rfl
            refine kx_drop 2 (lo' := [some (vR G 163), none, none, some (vI 0)]) rfl ?_
            have h_1237 := Inv.g hI_N_621 kd_163 rfl 10 (a := 0) (b := 900) rfl rfl
            exact L_1147 _ 0 N_621 hI_N_621 hF_N_621 ((CPk.nil _ _).at (by omega)) (by omega) rfl
        · refine kx_aload_n 38 F 0 dX12_checker_37 rfl rfl rfl ?_
          refine kx_Vi 41 (ci := 0) F (As := []) (st := []) vd_X12_276 (c_X12_checkerPart G l N_621  hI_N_621 (hp_628.1 (by omega))) kd_163 rfl rfl rfl ⟨by decide, by decide⟩ rfl rfl (Nat.le_of_ble_eq_true rfl) dX12_checker_38 rfl ?_
          intro r_1238 N_1239 q_1240
          obtain ⟨hI_N_1239, hG_N_1239, q_1240c, hl_N_1239⟩ := q_1240
          have hF_N_1239 : Fr f_e_X12_checker M N_1239 := Fr.c hF_N_621 hG_N_1239 rfl
          have h_1241 := Inv.g hI_N_621 kd_163 rfl 14 (a := 0) (b := 900) rfl rfl
          have h_1242 := Inv.g hI_N_1239 kd_163 rfl 14 (a := 0) (b := 900) rfl rfl
          have h_1243 := Inv.g hI_N_1239 kd_163 rfl 12 (a := 0) (b := 4) rfl rfl
          have h_1244 := Inv.g hI_N_621 kd_163 rfl 14 (a := 0) (b := 900) rfl rfl
          have h_1245 := Inv.g hI_N_1239 kd_163 rfl 14 (a := 0) (b := 900) rfl rfl
          have h_1246 := Inv.g hI_N_1239 kd_163 rfl 12 (a := 0) (b := 4) rfl rfl
          have h_1247 := Inv.g hI_N_1239 kd_163 rfl 18 (a := (-2147483648)) (b := 2147483647) rfl rfl
          rcases q_1240c with q_1240c | q_1240c
          · refine kx_istore_n 42 F 2 (lo' := [some (vR G 163), none, some (vI r_1238), none]) dX12_checker_41 rfl (by decide) rfl rfl rfl ?_
            refine kx_goto 26 F dX12_checker_42 (by decide) ?_
            have e_1248 : (N_1239 163 10) = (N_621 163 10) := by rw [Fr.e hG_N_1239 kd_163 _ rfl]
            have h_1249 := Inv.g hI_N_621 kd_163 rfl 10 (a := 0) (b := 900) rfl rfl
            exact ih_624 _ (by omega) r_1238 N_1239 hI_N_1239 hF_N_1239 (LO.trans hp_627 hl_N_1239.1) ⟨fun h => (hl_N_1239).2 h, fun h => by omega⟩ (by omega) rfl
          · refine kx_istore_n 42 F 2 (lo' := [some (vR G 163), none, some (vI r_1238), none]) dX12_checker_41 rfl (by decide) rfl rfl rfl ?_
            refine kx_goto 26 F dX12_checker_42 (by decide) ?_
            have e_1250 : (N_1239 163 10) = (N_621 163 10) := by rw [Fr.e hG_N_1239 kd_163 _ rfl]
            have h_1251 := Inv.g hI_N_621 kd_163 rfl 10 (a := 0) (b := 900) rfl rfl
            exact ih_624 _ (by omega) r_1238 N_1239 hI_N_1239 hF_N_1239 (LO.trans hp_627 hl_N_1239.1) ⟨fun h => (hl_N_1239).2 h, fun h => by omega⟩ (by omega) rfl
    refine kx_drop 1 (lo' := [some (vR G 163), none, some (vI 1), none]) rfl ?_
    have e_1252 : (N_11 163 14) = (N_2 163 14) := by rw [Fr.e hG_N_11 kd_163 _ rfl]
    have h_1253 := Inv.g hI_N_2 kd_163 rfl 14 (a := 0) (b := 900) rfl rfl
    have e_1254 : (N_11 163 12) = (N_2 163 12) := by rw [Fr.e hG_N_11 kd_163 _ rfl]
    have h_1255 := Inv.g hI_N_2 kd_163 rfl 12 (a := 0) (b := 4) rfl rfl
    have e_1256 : (N_11 163 12) = (N_2 163 12) := by rw [Fr.e hG_N_11 kd_163 _ rfl]
    have e_1257 : (N_11 163 10) = (N_2 163 10) := by rw [Fr.e hG_N_11 kd_163 _ rfl]
    exact L_622 _ 1 N_11 hI_N_11 hF_N_11 (LO.trans (LO.fr (LO.rf M) hG_N_2 rfl) hl_N_11.1) ⟨fun _ => hl_N_11.2, fun h => absurd rfl h⟩ (by omega) rfl
  · refine kx_if_ne 11 F 17 dX12_checker_8 (by decide) rfl (by omega) (fun h_1258 => (by exfalso; omega)) (fun h_1258 => ?_)
    refine kx_aload_n 12 F 0 dX12_checker_11 rfl rfl rfl ?_
    refine kx_iconst 13 F dX12_checker_12 rfl ?_
    refine kx_Vi 16 (ci := 0) F (As := [vI 1]) (st := []) vd_X12_123 (c_X12_refuse G l N_2 1 hI_N_2 (by omega)) kd_163 rfl rfl rfl ⟨by decide, by decide⟩ rfl rfl (Nat.le_of_ble_eq_true rfl) dX12_checker_13 rfl ?_
    intro r_1259 N_1260 q_1261
    obtain ⟨hI_N_1260, hG_N_1260, q_1261c⟩ := q_1261
    have hF_N_1260 : Fr f_e_X12_checker M N_1260 := Fr.c hF_N_2 hG_N_1260 rfl
    subst q_1261c
    have e_1262 : (N_1260 163 10) = (N_2 163 10) := by rw [Fr.e hG_N_1260 kd_163 _ rfl]
    have e_1263 : (N_1260 163 10) = (N_2 163 10) := by rw [Fr.e hG_N_1260 kd_163 _ rfl]
    have e_1264 : (N_1260 163 10) = (N_2 163 10) := by rw [Fr.e hG_N_1260 kd_163 _ rfl]
    exact kx_iret F hQ ⟨hI_N_1260, hF_N_1260, (Or.inl (by omega)), (YY.fr (YY.fr hY hG_N_2 rfl) hG_N_1260 rfl)⟩ dX12_checker_16
  · refine kx_if_ne 11 F 17 dX12_checker_8 (by decide) rfl (by omega) (fun h_1265 => (by exfalso; omega)) (fun h_1265 => ?_)
    refine kx_aload_n 12 F 0 dX12_checker_11 rfl rfl rfl ?_
    refine kx_iconst 13 F dX12_checker_12 rfl ?_
    refine kx_Vi 16 (ci := 0) F (As := [vI 1]) (st := []) vd_X12_123 (c_X12_refuse G l N_2 1 hI_N_2 (by omega)) kd_163 rfl rfl rfl ⟨by decide, by decide⟩ rfl rfl (Nat.le_of_ble_eq_true rfl) dX12_checker_13 rfl ?_
    intro r_1266 N_1267 q_1268
    obtain ⟨hI_N_1267, hG_N_1267, q_1268c⟩ := q_1268
    have hF_N_1267 : Fr f_e_X12_checker M N_1267 := Fr.c hF_N_2 hG_N_1267 rfl
    subst q_1268c
    have e_1269 : (N_1267 163 10) = (N_2 163 10) := by rw [Fr.e hG_N_1267 kd_163 _ rfl]
    have e_1270 : (N_1267 163 10) = (N_2 163 10) := by rw [Fr.e hG_N_1267 kd_163 _ rfl]
    have e_1271 : (N_1267 163 10) = (N_2 163 10) := by rw [Fr.e hG_N_1267 kd_163 _ rfl]
    exact kx_iret F hQ ⟨hI_N_1267, hF_N_1267, (Or.inr (Or.inl (by omega))), (YY.fr (YY.fr hY hG_N_2 rfl) hG_N_1267 rfl)⟩ dX12_checker_16
