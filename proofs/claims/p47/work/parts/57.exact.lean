/-! what a store leaves of one array -/
def UP (M N : Mem) (c a v : Int) : Prop := ∀ j, N c j = if j = a then v else M c j
theorem UP.st {M N : Mem} {c a v : Int} (h : N = mu M c a v) : UP M N c a v := fun j => by rw [h, mu_at]
theorem UP.ot {M N N' : Mem} {c a v d i w : Int} {k k' : Nat} (h : UP M N c a v) (hN : N' = mu N d i w) (hc : kd c = k) (hd : kd d = k') (hn : (k == k') = false) : UP M N' c a v := fun j => by rw [hN, mu_k hc hd hn]; exact h j
theorem UP.af {M N N' : Mem} {c a v d i w : Int} {k k' : Nat} (hN : N = mu M d i w) (hN' : N' = mu N c a v) (hc : kd c = k) (hd : kd d = k') (hn : (k == k') = false) : UP M N' c a v := fun j => by
  rw [hN', mu_at, hN, mu_k hc hd hn]
theorem fin_nk {L : List (Nat × Int)} {k : Nat} (h : L.all (fun p => !(p.1 == k)) = true) (j : Int) : fin L k j = false := by
  cases hx : fin L k j with
  | false => rfl
  | true =>
    unfold fin at hx
    obtain ⟨p, hp, h1⟩ := List.any_eq_true.mp hx
    have h2 := List.all_eq_true.mp h p hp
    simp only [Bool.and_eq_true] at h1
    rw [h1.1] at h2
    cases h2
theorem Fr.fn {L : List (Nat × Int)} {M N : Mem} (h : Fr L M N) {c : Int} {k : Nat} (hc : kd c = k) (hL : L.all (fun p => !(p.1 == k)) = true) : N c = M c := funext (fun j => h.e hc j (fin_nk hL j))
theorem UP.fr {L : List (Nat × Int)} {M N N' : Mem} {c a v : Int} {k : Nat} (h : UP M N c a v) (hF : Fr L N N') (hc : kd c = k) (hL : L.all (fun p => !(p.1 == k)) = true) : UP M N' c a v := fun j => by rw [hF.fn hc hL]; exact h j
abbrev WP (N M : Mem) (c a v : Int) : Prop := UP M N c a v
abbrev WS (N M : Mem) (c a v : Int) : Prop := UP M N c a v
def UQ2 (M N : Mem) (P S a s m r : Int) : Prop := (r = 1 ∧ UP M N P a m ∧ UP M N S a s) ∨ (r = 0 ∧ N P = M P ∧ N S = M S)
/-! what a pouring asks for -/
def PK (a1 a2 a3 a4 a5 p1 p3 s1 s3 : Int) : Prop := 0 ≤ a1 ∧ a1 ≤ 3 ∧ 0 ≤ a3 ∧ a3 ≤ 3 ∧ 0 ≤ a2 ∧ 0 ≤ a4 ∧ 0 ≤ a5 ∧ 0 ≤ p1 ∧ 0 ≤ p3 ∧ p1 ≤ 60 ∧ p3 ≤ 60 ∧ s1 = s3 ∧ a2 + a5 ≤ p1 ∧ a4 + a5 ≤ p3
def PRr (r a1 a2 a3 a4 a5 p1 p3 s1 s3 : Int) : Prop := (r = 0 ∧ PK a1 a2 a3 a4 a5 p1 p3 s1 s3) ∨ (r ≠ 0 ∧ ¬ PK a1 a2 a3 a4 a5 p1 p3 s1 s3)
def PPr (r a1 a2 a3 a4 a5 p1 p3 s1 s3 : Int) : Prop := (r = 1 ∧ PK a1 a2 a3 a4 a5 p1 p3 s1 s3) ∨ (r = 0 ∧ ¬ PK a1 a2 a3 a4 a5 p1 p3 s1 s3)
theorem PRr.k {r a1 a2 a3 a4 a5 p1 p3 s1 s3 : Int} (h : PRr r a1 a2 a3 a4 a5 p1 p3 s1 s3) (hr : r = 0) : 0 ≤ a1 ∧ a1 ≤ 3 ∧ 0 ≤ a3 ∧ a3 ≤ 3 ∧ 0 ≤ a2 ∧ 0 ≤ a4 ∧ 0 ≤ a5 ∧ 0 ≤ p1 ∧ 0 ≤ p3 ∧ p1 ≤ 60 ∧ p3 ≤ 60 ∧ s1 = s3 ∧ a2 + a5 ≤ p1 ∧ a4 + a5 ≤ p3 := by
  rcases h with h | h
  · exact h.2
  · exact absurd hr h.1
theorem PRr.y {r a1 a2 a3 a4 a5 p1 p3 s1 s3 : Int} (h : PRr r a1 a2 a3 a4 a5 p1 p3 s1 s3) (hr : r = 0) : PPr 1 a1 a2 a3 a4 a5 p1 p3 s1 s3 := Or.inl ⟨rfl, h.k hr⟩
theorem PRr.n {r a1 a2 a3 a4 a5 p1 p3 s1 s3 : Int} (h : PRr r a1 a2 a3 a4 a5 p1 p3 s1 s3) (hr : r ≠ 0) : PPr 0 a1 a2 a3 a4 a5 p1 p3 s1 s3 := by
  rcases h with h | h
  · exact absurd h.1 hr
  · exact Or.inr ⟨rfl, h.2⟩
theorem PPr.u {r r' a1 a2 a3 a4 a5 p1 p3 s1 s3 : Int} (h : PPr r a1 a2 a3 a4 a5 p1 p3 s1 s3) (h' : PPr r' a1 a2 a3 a4 a5 p1 p3 s1 s3) : r = r' := by
  rcases h with h | h <;> rcases h' with h' | h'
  · rw [h.1, h'.1]
  · exact absurd h.2 h'.2
  · exact absurd h'.2 h.2
  · rw [h.1, h'.1]
theorem UP.eq {M N M' N' : Mem} {c d a v : Int} (h : UP M M' c a v) (h' : UP N N' d a v) (e : M c = N d) : M' c = N' d := funext (fun j => by rw [h j, h' j, e])
set_option maxHeartbeats 4000000 in
set_option maxRecDepth 100000 in
theorem e_X11_within (G : KG) (l : Launch) (M : Mem) (a0 : Int) (a1 : Int) (a2 : Int) (hI_M : Inv false M) (hpre : -2147483648 ≤ a0 ∧ a0 ≤ 2147483647 ∧ -2147483648 ≤ a1 ∧ a1 ≤ 2147483647 ∧ -2147483648 ≤ a2 ∧ a2 ≤ 2147483647) : KC false G l yX11_within cX11_within 3 (some .boolean) (0, 0) [vI a0, vI a1, vI a2] M (fun A => kQi false G A (fun (r : Int) (N : Mem) => M = N ∧ ((r = 1 ∧ a1 ≤ a0 ∧ a0 ≤ a2) ∨ (r = 0 ∧ a0 < a1) ∨ (r = 0 ∧ a0 > a2)))) := by
  refine kx_met (lo := [some (vI a0), some (vI a1), some (vI a2)]) (by decide) (Nat.le_of_ble_eq_true rfl) rfl ?_
  intro X F hQ
  refine kx_iload_n 1 F 0 dX11_within_0 rfl rfl rfl ?_
  refine kx_iload_n 2 F 1 dX11_within_1 rfl rfl rfl ?_
  refine kx_icmp_lt 5 F 14 dX11_within_2 (by decide) rfl (by omega) (by omega) (fun h_1 => ?_) (fun h_1 => ?_)
  · refine kx_iconst 15 F dX11_within_14 rfl ?_
    exact kx_zret F hQ (by omega) ⟨rfl, (Or.inr (Or.inl (by omega)))⟩ dX11_within_15
  · refine kx_iload_n 6 F 0 dX11_within_5 rfl rfl rfl ?_
    refine kx_iload_n 7 F 2 dX11_within_6 rfl rfl rfl ?_
    refine kx_icmp_gt 10 F 14 dX11_within_7 (by decide) rfl (by omega) (by omega) (fun h_2 => ?_) (fun h_2 => ?_)
    · refine kx_iconst 15 F dX11_within_14 rfl ?_
      exact kx_zret F hQ (by omega) ⟨rfl, (Or.inr (Or.inr (by omega)))⟩ dX11_within_15
    · refine kx_iconst 11 F dX11_within_10 rfl ?_
      refine kx_goto 15 F dX11_within_11 (by decide) ?_
      exact kx_zret F hQ (by omega) ⟨rfl, (Or.inl (by omega))⟩ dX11_within_15
set_option maxHeartbeats 4000000 in
set_option maxRecDepth 100000 in
theorem e_X9_has (G : KG) (l : Launch) (M : Mem) (c0 : Int) (a1 : Int) (hI_M : Inv false M) (hk_c0 : kd c0 = 13) (hpre : -2147483648 ≤ a1 ∧ a1 ≤ 2147483647) : KC false G l yX9_has cX9_has 2 (some .boolean) (1, 22) [vR G c0, vI a1] M (fun A => kQi false G A (fun (r : Int) (N : Mem) => M = N ∧ ((r = 1 ∧ 0 ≤ a1 ∧ a1 ≤ 3) ∨ (r = 0 ∧ a1 < 0) ∨ (r = 0 ∧ a1 > 3)))) := by
  refine kx_met (lo := [some (vR G c0), some (vI a1)]) (by decide) (Nat.le_of_ble_eq_true rfl) rfl ?_
  intro X F hQ
  refine kx_iload_n 1 F 1 dX9_has_0 rfl rfl rfl ?_
  refine kx_iconst 2 F dX9_has_1 rfl ?_
  refine kx_iconst 3 F dX9_has_2 rfl ?_
  refine kx_SNi 6 F (As := [vI a1, vI 0, vI 3]) (st := []) sn_X9_22 (e_X11_within G l M a1 0 3 hI_M (by omega)) ⟨by decide, by decide⟩ rfl rfl (Nat.le_of_ble_eq_true rfl) dX9_has_3 rfl ?_
  intro r_1 N_2 q_3
  obtain ⟨rfl, q_3c⟩ := q_3
  rcases q_3c with q_3c | q_3c | q_3c
  · exact kx_zret F hQ (by omega) ⟨rfl, (Or.inl (by omega))⟩ dX9_has_6
  · exact kx_zret F hQ (by omega) ⟨rfl, (Or.inr (Or.inl (by omega)))⟩ dX9_has_6
  · exact kx_zret F hQ (by omega) ⟨rfl, (Or.inr (Or.inr (by omega)))⟩ dX9_has_6
set_option maxHeartbeats 4000000 in
set_option maxRecDepth 100000 in
theorem e_X9_isMissing (G : KG) (l : Launch) (M : Mem) (c0 : Int) (a1 : Int) (hI_M : Inv false M) (hk_c0 : kd c0 = 13) (hpre : -2147483648 ≤ a1 ∧ a1 ≤ 2147483647 ∧ 0 ≤ a1 ∧ a1 ≤ 3) : KC false G l yX9_isMissing cX9_isMissing 2 (some .boolean) (0, 0) [vR G c0, vI a1] M (fun A => kQi false G A (fun (r : Int) (N : Mem) => M = N ∧ ((r = 1 ∧ (M (M c0 2) a1) = -1) ∨ (r = 0 ∧ (M (M c0 2) a1) ≠ -1)))) := by
  refine kx_met (lo := [some (vR G c0), some (vI a1)]) (by decide) (Nat.le_of_ble_eq_true rfl) rfl ?_
  intro X F hQ
  refine kx_aload_n 1 F 0 dX9_isMissing_0 rfl rfl rfl ?_
  refine kx_getr 4 F fl_X9_19 hk_c0 rfl rfl (j := 2) rfl dX9_isMissing_1 (v := (M c0 2)) rfl rfl ?_
  have hk_1 : kd (M c0 2) = 16 := Inv.r hI_M hk_c0 rfl 2 rfl rfl
  refine kx_iload_n 5 F 1 dX9_isMissing_4 rfl rfl rfl ?_
  refine kx_iald 6 F hk_1 rfl rfl (by omega) (by decide) dX9_isMissing_5 (v := (M (M c0 2) a1)) rfl rfl ?_
  have h_2 := Inv.g hI_M hk_1 rfl a1 (a := (-1)) (b := 60) rfl rfl
  refine kx_iconst 7 F dX9_isMissing_6 rfl ?_
  refine kx_icmp_ne 10 F 14 dX9_isMissing_7 (by decide) rfl (by omega) (by decide) (fun h_3 => ?_) (fun h_3 => ?_)
  · refine kx_iconst 15 F dX9_isMissing_14 rfl ?_
    exact kx_zret F hQ (by omega) ⟨rfl, (by omega)⟩ dX9_isMissing_15
  · refine kx_iconst 11 F dX9_isMissing_10 rfl ?_
    refine kx_goto 15 F dX9_isMissing_11 (by decide) ?_
    exact kx_zret F hQ (by omega) ⟨rfl, (by omega)⟩ dX9_isMissing_15
set_option maxHeartbeats 4000000 in
set_option maxRecDepth 100000 in
theorem e_X9_refusal (G : KG) (l : Launch) (M : Mem) (c0 : Int) (a1 : Int) (a2 : Int) (hI_M : Inv false M) (hk_c0 : kd c0 = 13) (hpre : -2147483648 ≤ a1 ∧ a1 ≤ 2147483647 ∧ -2147483648 ≤ a2 ∧ a2 ≤ 2147483647) : KC false G l yX9_refusal cX9_refusal 3 (some .int) (2, 43) [vR G c0, vI a1, vI a2] M (fun A => kQi false G A (fun (r : Int) (N : Mem) => M = N ∧ ((r = 0 ∧ 0 ≤ a1 ∧ a1 ≤ 3 ∧ 0 ≤ a2 ∧ a2 < (M (M c0 2) a1) ∧ a2 ≤ 59) ∨ (r ≥ 1 ∧ r ≤ 3 ∧ a1 < 0) ∨ (r ≥ 1 ∧ r ≤ 3 ∧ a1 > 3) ∨ (r ≥ 1 ∧ r ≤ 3 ∧ 0 ≤ a1 ∧ a1 ≤ 3 ∧ (M (M c0 2) a1) = -1) ∨ (r ≥ 1 ∧ r ≤ 3 ∧ 0 ≤ a1 ∧ a1 ≤ 3 ∧ a2 < 0) ∨ (r ≥ 1 ∧ r ≤ 3 ∧ 0 ≤ a1 ∧ a1 ≤ 3 ∧ a2 ≥ (M (M c0 2) a1))))) := by
  refine kx_met (lo := [some (vR G c0), some (vI a1), some (vI a2)]) (by decide) (Nat.le_of_ble_eq_true rfl) rfl ?_
  intro X F hQ
  refine kx_aload_n 1 F 0 dX9_refusal_0 rfl rfl rfl ?_
  refine kx_iload_n 2 F 1 dX9_refusal_1 rfl rfl rfl ?_
  refine kx_Vi 5 (ci := 0) F (As := [vI a1]) (st := []) vd_X9_26 (e_X9_has G l M c0 a1 hI_M hk_c0 (by omega)) hk_c0 rfl rfl rfl ⟨by decide, by decide⟩ rfl rfl (Nat.le_of_ble_eq_true rfl) dX9_refusal_2 rfl ?_
  intro r_1 N_2 q_3
  obtain ⟨rfl, q_3c⟩ := q_3
  rcases q_3c with q_3c | q_3c | q_3c
  · refine kx_if_ne 8 F 10 dX9_refusal_5 (by decide) rfl (by omega) (fun h_4 => ?_) (fun h_4 => (by exfalso; omega))
    refine kx_aload_n 11 F 0 dX9_refusal_10 rfl rfl rfl ?_
    refine kx_iload_n 12 F 1 dX9_refusal_11 rfl rfl rfl ?_
    refine kx_Vi 15 (ci := 0) F (As := [vI a1]) (st := []) vd_X9_30 (e_X9_isMissing G l M c0 a1 hI_M hk_c0 (by omega)) hk_c0 rfl rfl rfl ⟨by decide, by decide⟩ rfl rfl (Nat.le_of_ble_eq_true rfl) dX9_refusal_12 rfl ?_
    intro r_5 N_6 q_7
    obtain ⟨rfl, q_7c⟩ := q_7
    have hk_8 : kd (M c0 2) = 16 := Inv.r hI_M hk_c0 rfl 2 rfl rfl
    have hk_9 : kd (M c0 2) = 16 := Inv.r hI_M hk_c0 rfl 2 rfl rfl
    rcases q_7c with q_7c | q_7c
    · refine kx_if_eq 18 F 20 dX9_refusal_15 (by decide) rfl (by omega) (fun h_10 => (by exfalso; omega)) (fun h_10 => ?_)
      refine kx_iconst 19 F dX9_refusal_18 rfl ?_
      exact kx_iret F hQ ⟨rfl, (Or.inr (Or.inr (Or.inr (Or.inl (by omega)))))⟩ dX9_refusal_19
    · refine kx_if_eq 18 F 20 dX9_refusal_15 (by decide) rfl (by omega) (fun h_11 => ?_) (fun h_11 => (by exfalso; omega))
      refine kx_iload_n 21 F 2 dX9_refusal_20 rfl rfl rfl ?_
      refine kx_if_lt 24 F 38 dX9_refusal_21 (by decide) rfl (by omega) (fun h_12 => ?_) (fun h_12 => ?_)
      · refine kx_iconst 39 F dX9_refusal_38 rfl ?_
        exact kx_iret F hQ ⟨rfl, (Or.inr (Or.inr (Or.inr (Or.inr (Or.inl (by omega))))))⟩ dX9_refusal_39
      · refine kx_iload_n 25 F 2 dX9_refusal_24 rfl rfl rfl ?_
        refine kx_aload_n 26 F 0 dX9_refusal_25 rfl rfl rfl ?_
        refine kx_getr 29 F fl_X9_19 hk_c0 rfl rfl (j := 2) rfl dX9_refusal_26 (v := (M c0 2)) rfl rfl ?_
        refine kx_iload_n 30 F 1 dX9_refusal_29 rfl rfl rfl ?_
        refine kx_iald 31 F hk_9 rfl rfl (by omega) (by decide) dX9_refusal_30 (v := (M (M c0 2) a1)) rfl rfl ?_
        have h_13 := Inv.g hI_M hk_9 rfl a1 (a := (-1)) (b := 60) rfl rfl
        refine kx_icmp_ge 34 F 38 dX9_refusal_31 (by decide) rfl (by omega) (by omega) (fun h_14 => ?_) (fun h_14 => ?_)
        · refine kx_iconst 39 F dX9_refusal_38 rfl ?_
          exact kx_iret F hQ ⟨rfl, (Or.inr (Or.inr (Or.inr (Or.inr (Or.inr (by omega))))))⟩ dX9_refusal_39
        · refine kx_iconst 35 F dX9_refusal_34 rfl ?_
          refine kx_goto 39 F dX9_refusal_35 (by decide) ?_
          exact kx_iret F hQ ⟨rfl, (Or.inl (by omega))⟩ dX9_refusal_39
  · refine kx_if_ne 8 F 10 dX9_refusal_5 (by decide) rfl (by omega) (fun h_15 => (by exfalso; omega)) (fun h_15 => ?_)
    refine kx_iconst 9 F dX9_refusal_8 rfl ?_
    have hk_16 : kd (M c0 2) = 16 := Inv.r hI_M hk_c0 rfl 2 rfl rfl
    exact kx_iret F hQ ⟨rfl, (Or.inr (Or.inl (by omega)))⟩ dX9_refusal_9
  · refine kx_if_ne 8 F 10 dX9_refusal_5 (by decide) rfl (by omega) (fun h_17 => (by exfalso; omega)) (fun h_17 => ?_)
    refine kx_iconst 9 F dX9_refusal_8 rfl ?_
    have hk_18 : kd (M c0 2) = 16 := Inv.r hI_M hk_c0 rfl 2 rfl rfl
    exact kx_iret F hQ ⟨rfl, (Or.inr (Or.inr (Or.inl (by omega))))⟩ dX9_refusal_9
set_option maxHeartbeats 4000000 in
set_option maxRecDepth 100000 in
theorem e_X9_pourRefusal (G : KG) (l : Launch) (M : Mem) (c0 : Int) (a1 : Int) (a2 : Int) (a3 : Int) (a4 : Int) (a5 : Int) (hI_M : Inv false M) (hk_c0 : kd c0 = 13) (hpre : -2147483648 ≤ a1 ∧ a1 ≤ 2147483647 ∧ -2147483648 ≤ a2 ∧ a2 ≤ 2147483647 ∧ -2147483648 ≤ a3 ∧ a3 ≤ 2147483647 ∧ -2147483648 ≤ a4 ∧ a4 ≤ 2147483647 ∧ -2147483648 ≤ a5 ∧ a5 ≤ 2147483647) : KC false G l yX9_pourRefusal cX9_pourRefusal 7 (some .int) (2, 43) [vR G c0, vI a1, vI a2, vI a3, vI a4, vI a5] M (fun A => kQi false G A (fun (r : Int) (N : Mem) => M = N ∧ (r ≥ 0 ∧ r ≤ 8) ∧ (PRr r a1 a2 a3 a4 a5 (M (M c0 2) a1) (M (M c0 2) a3) (M (M c0 1) a1) (M (M c0 1) a3)))) := by
  refine kx_met (lo := [some (vR G c0), some (vI a1), some (vI a2), some (vI a3), some (vI a4), some (vI a5), none]) (by decide) (Nat.le_of_ble_eq_true rfl) rfl ?_
  intro X F hQ
  refine kx_aload_n 1 F 0 dX9_pourRefusal_0 rfl rfl rfl ?_
  refine kx_iload_n 2 F 1 dX9_pourRefusal_1 rfl rfl rfl ?_
  refine kx_Vi 5 (ci := 0) F (As := [vI a1]) (st := []) vd_X9_26 (e_X9_has G l M c0 a1 hI_M hk_c0 (by omega)) hk_c0 rfl rfl rfl ⟨by decide, by decide⟩ rfl rfl (Nat.le_of_ble_eq_true rfl) dX9_pourRefusal_2 rfl ?_
  intro r_1 N_2 q_3
  obtain ⟨rfl, q_3c⟩ := q_3
  rcases q_3c with q_3c | q_3c | q_3c
  · refine kx_if_eq 8 F 30 dX9_pourRefusal_5 (by decide) rfl (by omega) (fun h_4 => (by exfalso; omega)) (fun h_4 => ?_)
    refine kx_aload_n 9 F 0 dX9_pourRefusal_8 rfl rfl rfl ?_
    refine kx_iload_n 10 F 3 dX9_pourRefusal_9 rfl rfl rfl ?_
    refine kx_Vi 13 (ci := 0) F (As := [vI a3]) (st := []) vd_X9_26 (e_X9_has G l M c0 a3 hI_M hk_c0 (by omega)) hk_c0 rfl rfl rfl ⟨by decide, by decide⟩ rfl rfl (Nat.le_of_ble_eq_true rfl) dX9_pourRefusal_10 rfl ?_
    intro r_5 N_6 q_7
    obtain ⟨rfl, q_7c⟩ := q_7
    rcases q_7c with q_7c | q_7c | q_7c
    · refine kx_if_eq 16 F 30 dX9_pourRefusal_13 (by decide) rfl (by omega) (fun h_8 => (by exfalso; omega)) (fun h_8 => ?_)
      refine kx_iload_n 17 F 2 dX9_pourRefusal_16 rfl rfl rfl ?_
      refine kx_if_lt 20 F 30 dX9_pourRefusal_17 (by decide) rfl (by omega) (fun h_9 => ?_) (fun h_9 => ?_)
      · refine kx_iconst 31 F dX9_pourRefusal_30 rfl ?_
        exact kx_iret F hQ ⟨rfl, (by omega), (Or.inr ⟨by omega, fun h => by unfold PK at h; omega⟩)⟩ dX9_pourRefusal_31
      · refine kx_iload 22 F 4 dX9_pourRefusal_20 rfl rfl ?_
        refine kx_if_lt 25 F 30 dX9_pourRefusal_22 (by decide) rfl (by omega) (fun h_10 => ?_) (fun h_10 => ?_)
        · refine kx_iconst 31 F dX9_pourRefusal_30 rfl ?_
          exact kx_iret F hQ ⟨rfl, (by omega), (Or.inr ⟨by omega, fun h => by unfold PK at h; omega⟩)⟩ dX9_pourRefusal_31
        · refine kx_iload 27 F 5 dX9_pourRefusal_25 rfl rfl ?_
          refine kx_if_ge 30 F 32 dX9_pourRefusal_27 (by decide) rfl (by omega) (fun h_11 => ?_) (fun h_11 => ?_)
          · refine kx_aload_n 33 F 0 dX9_pourRefusal_32 rfl rfl rfl ?_
            refine kx_iload_n 34 F 1 dX9_pourRefusal_33 rfl rfl rfl ?_
            refine kx_Vi 37 (ci := 0) F (As := [vI a1]) (st := []) vd_X9_30 (e_X9_isMissing G l M c0 a1 hI_M hk_c0 (by omega)) hk_c0 rfl rfl rfl ⟨by decide, by decide⟩ rfl rfl (Nat.le_of_ble_eq_true rfl) dX9_pourRefusal_34 rfl ?_
            intro r_12 N_13 q_14
            obtain ⟨rfl, q_14c⟩ := q_14
            have hk_15 : kd (M c0 2) = 16 := Inv.r hI_M hk_c0 rfl 2 rfl rfl
            have hk_16 : kd (M c0 2) = 16 := Inv.r hI_M hk_c0 rfl 2 rfl rfl
            rcases q_14c with q_14c | q_14c
            · refine kx_if_ne 40 F 48 dX9_pourRefusal_37 (by decide) rfl (by omega) (fun h_17 => ?_) (fun h_17 => (by exfalso; omega))
              refine kx_iconst 49 F dX9_pourRefusal_48 rfl ?_
              exact kx_iret F hQ ⟨rfl, (by omega), (Or.inr ⟨by omega, fun h => by unfold PK at h; omega⟩)⟩ dX9_pourRefusal_49
            · refine kx_if_ne 40 F 48 dX9_pourRefusal_37 (by decide) rfl (by omega) (fun h_18 => (by exfalso; omega)) (fun h_18 => ?_)
              refine kx_aload_n 41 F 0 dX9_pourRefusal_40 rfl rfl rfl ?_
              refine kx_iload_n 42 F 3 dX9_pourRefusal_41 rfl rfl rfl ?_
              refine kx_Vi 45 (ci := 0) F (As := [vI a3]) (st := []) vd_X9_30 (e_X9_isMissing G l M c0 a3 hI_M hk_c0 (by omega)) hk_c0 rfl rfl rfl ⟨by decide, by decide⟩ rfl rfl (Nat.le_of_ble_eq_true rfl) dX9_pourRefusal_42 rfl ?_
              intro r_19 N_20 q_21
              obtain ⟨rfl, q_21c⟩ := q_21
              rcases q_21c with q_21c | q_21c
              · refine kx_if_eq 48 F 50 dX9_pourRefusal_45 (by decide) rfl (by omega) (fun h_22 => (by exfalso; omega)) (fun h_22 => ?_)
                refine kx_iconst 49 F dX9_pourRefusal_48 rfl ?_
                exact kx_iret F hQ ⟨rfl, (by omega), (Or.inr ⟨by omega, fun h => by unfold PK at h; omega⟩)⟩ dX9_pourRefusal_49
              · refine kx_if_eq 48 F 50 dX9_pourRefusal_45 (by decide) rfl (by omega) (fun h_23 => ?_) (fun h_23 => (by exfalso; omega))
                refine kx_aload_n 51 F 0 dX9_pourRefusal_50 rfl rfl rfl ?_
                refine kx_getr 54 F fl_X9_15 hk_c0 rfl rfl (j := 1) rfl dX9_pourRefusal_51 (v := (M c0 1)) rfl rfl ?_
                have hk_24 : kd (M c0 1) = 15 := Inv.r hI_M hk_c0 rfl 1 rfl rfl
                refine kx_iload_n 55 F 1 dX9_pourRefusal_54 rfl rfl rfl ?_
                refine kx_iald 56 F hk_24 rfl rfl (by omega) (by decide) dX9_pourRefusal_55 (v := (M (M c0 1) a1)) rfl rfl ?_
                have h_25 := Inv.g hI_M hk_24 rfl a1 (a := 0) (b := 3) rfl rfl
                refine kx_aload_n 57 F 0 dX9_pourRefusal_56 rfl rfl rfl ?_
                refine kx_getr 60 F fl_X9_15 hk_c0 rfl rfl (j := 1) rfl dX9_pourRefusal_57 (v := (M c0 1)) rfl rfl ?_
                refine kx_iload_n 61 F 3 dX9_pourRefusal_60 rfl rfl rfl ?_
                refine kx_iald 62 F hk_24 rfl rfl (by omega) (by decide) dX9_pourRefusal_61 (v := (M (M c0 1) a3)) rfl rfl ?_
                have h_26 := Inv.g hI_M hk_24 rfl a3 (a := 0) (b := 3) rfl rfl
                refine kx_icmp_eq 65 F 68 dX9_pourRefusal_62 (by decide) rfl (by omega) (by omega) (fun h_27 => ?_) (fun h_27 => ?_)
                · refine kx_iload_n 69 F 2 dX9_pourRefusal_68 rfl rfl rfl ?_
                  refine kx_i2l 70 F dX9_pourRefusal_69 (by omega) rfl ?_
                  refine kx_iload 72 F 5 dX9_pourRefusal_70 rfl rfl ?_
                  refine kx_i2l 73 F dX9_pourRefusal_72 (by omega) rfl ?_
                  refine kx_ladd 74 F (v := a2 + a5) dX9_pourRefusal_73 rfl rfl ?_
                  refine kx_aload_n 75 F 0 dX9_pourRefusal_74 rfl rfl rfl ?_
                  refine kx_getr 78 F fl_X9_19 hk_c0 rfl rfl (j := 2) rfl dX9_pourRefusal_75 (v := (M c0 2)) rfl rfl ?_
                  refine kx_iload_n 79 F 1 dX9_pourRefusal_78 rfl rfl rfl ?_
                  refine kx_iald 80 F hk_16 rfl rfl (by omega) (by decide) dX9_pourRefusal_79 (v := (M (M c0 2) a1)) rfl rfl ?_
                  have h_28 := Inv.g hI_M hk_16 rfl a1 (a := (-1)) (b := 60) rfl rfl
                  refine kx_i2l 81 F dX9_pourRefusal_80 (by omega) rfl ?_
                  refine kx_lcmp 82 F dX9_pourRefusal_81 (by omega) (by omega) rfl (fun w_29 h_30 => ?_)
                  refine kx_if_gt 85 F 107 dX9_pourRefusal_82 (by decide) rfl (by omega) (fun h_31 => ?_) (fun h_31 => ?_)
                  · refine kx_iconst 108 F dX9_pourRefusal_107 rfl ?_
                    refine kx_istore 110 F 6 (lo' := [some (vR G c0), some (vI a1), some (vI a2), some (vI a3), some (vI a4), some (vI a5), some (vI 0)]) dX9_pourRefusal_108 (by decide) rfl rfl rfl ?_
                    refine kx_iload 112 F 6 dX9_pourRefusal_110 rfl rfl ?_
                    refine kx_if_eq 115 F 119 dX9_pourRefusal_112 (by decide) rfl (by decide) (fun h_32 => ?_) (fun h_32 => ?_)
                    · refine kx_iconst 120 F dX9_pourRefusal_119 rfl ?_
                      exact kx_iret F hQ ⟨rfl, (by omega), (Or.inr ⟨by omega, fun h => by unfold PK at h; omega⟩)⟩ dX9_pourRefusal_120
                    · refine kx_iconst 116 F dX9_pourRefusal_115 rfl ?_
                      refine kx_goto 120 F dX9_pourRefusal_116 (by decide) ?_
                      exact kx_iret F hQ ⟨rfl, (by omega), (Or.inl ⟨by omega, by omega, by omega, by omega, by omega, by omega, by omega, by omega, by omega, by omega, by omega, by omega, by omega, by omega, by omega⟩)⟩ dX9_pourRefusal_120
                  · refine kx_iload 87 F 4 dX9_pourRefusal_85 rfl rfl ?_
                    refine kx_i2l 88 F dX9_pourRefusal_87 (by omega) rfl ?_
                    refine kx_iload 90 F 5 dX9_pourRefusal_88 rfl rfl ?_
                    refine kx_i2l 91 F dX9_pourRefusal_90 (by omega) rfl ?_
                    refine kx_ladd 92 F (v := a4 + a5) dX9_pourRefusal_91 rfl rfl ?_
                    refine kx_aload_n 93 F 0 dX9_pourRefusal_92 rfl rfl rfl ?_
                    refine kx_getr 96 F fl_X9_19 hk_c0 rfl rfl (j := 2) rfl dX9_pourRefusal_93 (v := (M c0 2)) rfl rfl ?_
                    refine kx_iload_n 97 F 3 dX9_pourRefusal_96 rfl rfl rfl ?_
                    refine kx_iald 98 F hk_16 rfl rfl (by omega) (by decide) dX9_pourRefusal_97 (v := (M (M c0 2) a3)) rfl rfl ?_
                    have h_33 := Inv.g hI_M hk_16 rfl a3 (a := (-1)) (b := 60) rfl rfl
                    refine kx_i2l 99 F dX9_pourRefusal_98 (by omega) rfl ?_
                    refine kx_lcmp 100 F dX9_pourRefusal_99 (by omega) (by omega) rfl (fun w_34 h_35 => ?_)
                    refine kx_if_gt 103 F 107 dX9_pourRefusal_100 (by decide) rfl (by omega) (fun h_36 => ?_) (fun h_36 => ?_)
                    · refine kx_iconst 108 F dX9_pourRefusal_107 rfl ?_
                      refine kx_istore 110 F 6 (lo' := [some (vR G c0), some (vI a1), some (vI a2), some (vI a3), some (vI a4), some (vI a5), some (vI 0)]) dX9_pourRefusal_108 (by decide) rfl rfl rfl ?_
                      refine kx_iload 112 F 6 dX9_pourRefusal_110 rfl rfl ?_
                      refine kx_if_eq 115 F 119 dX9_pourRefusal_112 (by decide) rfl (by decide) (fun h_37 => ?_) (fun h_37 => ?_)
                      · refine kx_iconst 120 F dX9_pourRefusal_119 rfl ?_
                        exact kx_iret F hQ ⟨rfl, (by omega), (Or.inr ⟨by omega, fun h => by unfold PK at h; omega⟩)⟩ dX9_pourRefusal_120
                      · refine kx_iconst 116 F dX9_pourRefusal_115 rfl ?_
                        refine kx_goto 120 F dX9_pourRefusal_116 (by decide) ?_
                        exact kx_iret F hQ ⟨rfl, (by omega), (Or.inl ⟨by omega, by omega, by omega, by omega, by omega, by omega, by omega, by omega, by omega, by omega, by omega, by omega, by omega, by omega, by omega⟩)⟩ dX9_pourRefusal_120
                    · refine kx_iconst 104 F dX9_pourRefusal_103 rfl ?_
                      refine kx_goto 108 F dX9_pourRefusal_104 (by decide) ?_
                      refine kx_istore 110 F 6 (lo' := [some (vR G c0), some (vI a1), some (vI a2), some (vI a3), some (vI a4), some (vI a5), some (vI 1)]) dX9_pourRefusal_108 (by decide) rfl rfl rfl ?_
                      refine kx_iload 112 F 6 dX9_pourRefusal_110 rfl rfl ?_
                      refine kx_if_eq 115 F 119 dX9_pourRefusal_112 (by decide) rfl (by decide) (fun h_38 => (by exfalso; omega)) (fun h_38 => ?_)
                      refine kx_iconst 116 F dX9_pourRefusal_115 rfl ?_
                      refine kx_goto 120 F dX9_pourRefusal_116 (by decide) ?_
                      exact kx_iret F hQ ⟨rfl, (by omega), (Or.inl ⟨by omega, by omega, by omega, by omega, by omega, by omega, by omega, by omega, by omega, by omega, by omega, by omega, by omega, by omega, by omega⟩)⟩ dX9_pourRefusal_120
                · refine kx_bipush 67 F dX9_pourRefusal_65 (by decide) rfl ?_
                  exact kx_iret F hQ ⟨rfl, (by omega), (Or.inr ⟨by omega, fun h => by unfold PK at h; omega⟩)⟩ dX9_pourRefusal_67
          · refine kx_iconst 31 F dX9_pourRefusal_30 rfl ?_
            exact kx_iret F hQ ⟨rfl, (by omega), (Or.inr ⟨by omega, fun h => by unfold PK at h; omega⟩)⟩ dX9_pourRefusal_31
    · refine kx_if_eq 16 F 30 dX9_pourRefusal_13 (by decide) rfl (by omega) (fun h_39 => ?_) (fun h_39 => (by exfalso; omega))
      refine kx_iconst 31 F dX9_pourRefusal_30 rfl ?_
      exact kx_iret F hQ ⟨rfl, (by omega), (Or.inr ⟨by omega, fun h => by unfold PK at h; omega⟩)⟩ dX9_pourRefusal_31
    · refine kx_if_eq 16 F 30 dX9_pourRefusal_13 (by decide) rfl (by omega) (fun h_40 => ?_) (fun h_40 => (by exfalso; omega))
      refine kx_iconst 31 F dX9_pourRefusal_30 rfl ?_
      exact kx_iret F hQ ⟨rfl, (by omega), (Or.inr ⟨by omega, fun h => by unfold PK at h; omega⟩)⟩ dX9_pourRefusal_31
  · refine kx_if_eq 8 F 30 dX9_pourRefusal_5 (by decide) rfl (by omega) (fun h_41 => ?_) (fun h_41 => (by exfalso; omega))
    refine kx_iconst 31 F dX9_pourRefusal_30 rfl ?_
    exact kx_iret F hQ ⟨rfl, (by omega), (Or.inr ⟨by omega, fun h => by unfold PK at h; omega⟩)⟩ dX9_pourRefusal_31
  · refine kx_if_eq 8 F 30 dX9_pourRefusal_5 (by decide) rfl (by omega) (fun h_42 => ?_) (fun h_42 => (by exfalso; omega))
    refine kx_iconst 31 F dX9_pourRefusal_30 rfl ?_
    exact kx_iret F hQ ⟨rfl, (by omega), (Or.inr ⟨by omega, fun h => by unfold PK at h; omega⟩)⟩ dX9_pourRefusal_31
set_option maxHeartbeats 4000000 in
set_option maxRecDepth 100000 in
theorem e_X12_isTray (G : KG) (l : Launch) (M : Mem) (a0 : Int) (hI_M : Inv true M) (hpre : -2147483648 ≤ a0 ∧ a0 ≤ 2147483647) : KC true G l yX12_isTray cX12_isTray 1 (some .boolean) (0, 0) [vI a0] M (fun A => kQi true G A (fun (r : Int) (N : Mem) => M = N ∧ ((r = 1 ∧ 0 ≤ a0 ∧ a0 ≤ 3) ∨ (r = 0 ∧ a0 < 0) ∨ (r = 0 ∧ a0 > 3)))) := by
  refine kx_met (lo := [some (vI a0)]) (by decide) (Nat.le_of_ble_eq_true rfl) rfl ?_
  intro X F hQ
  refine kx_iload_n 1 F 0 dX12_isTray_0 rfl rfl rfl ?_
  refine kx_if_lt 4 F 13 dX12_isTray_1 (by decide) rfl (by omega) (fun h_1 => ?_) (fun h_1 => ?_)
  · refine kx_iconst 14 F dX12_isTray_13 rfl ?_
    exact kx_zret F hQ (by omega) ⟨rfl, (Or.inr (Or.inl (by omega)))⟩ dX12_isTray_14
  · refine kx_iload_n 5 F 0 dX12_isTray_4 rfl rfl rfl ?_
    refine kx_iconst 6 F dX12_isTray_5 rfl ?_
    refine kx_icmp_ge 9 F 13 dX12_isTray_6 (by decide) rfl (by omega) (by decide) (fun h_2 => ?_) (fun h_2 => ?_)
    · refine kx_iconst 14 F dX12_isTray_13 rfl ?_
      exact kx_zret F hQ (by omega) ⟨rfl, (Or.inr (Or.inr (by omega)))⟩ dX12_isTray_14
    · refine kx_iconst 10 F dX12_isTray_9 rfl ?_
      refine kx_goto 14 F dX12_isTray_10 (by decide) ?_
      exact kx_zret F hQ (by omega) ⟨rfl, (Or.inl (by omega))⟩ dX12_isTray_14
set_option maxHeartbeats 4000000 in
set_option maxRecDepth 100000 in
theorem e_X12_wrongPlace (G : KG) (l : Launch) (M : Mem) (a1 : Int) (a2 : Int) (hI_M : Inv true M) (hpre : -2147483648 ≤ a1 ∧ a1 ≤ 2147483647 ∧ -2147483648 ≤ a2 ∧ a2 ≤ 2147483647) : KC true G l yX12_wrongPlace cX12_wrongPlace 3 (some .int) (1, 20) [vR G 163, vI a1, vI a2] M (fun A => kQi true G A (fun (r : Int) (N : Mem) => M = N ∧ ((r = 0 ∧ 0 ≤ a1 ∧ a1 ≤ 3 ∧ 0 ≤ a2 ∧ a2 < (M 167 a1) ∧ a2 ≤ 59) ∨ (r ≥ 1 ∧ r ≤ 3 ∧ a1 < 0) ∨ (r ≥ 1 ∧ r ≤ 3 ∧ a1 > 3) ∨ (r ≥ 1 ∧ r ≤ 3 ∧ 0 ≤ a1 ∧ a1 ≤ 3 ∧ (M 167 a1) = -1) ∨ (r ≥ 1 ∧ r ≤ 3 ∧ 0 ≤ a1 ∧ a1 ≤ 3 ∧ a2 < 0) ∨ (r ≥ 1 ∧ r ≤ 3 ∧ 0 ≤ a1 ∧ a1 ≤ 3 ∧ a2 ≥ (M 167 a1))))) := by
  refine kx_met (lo := [some (vR G 163), some (vI a1), some (vI a2)]) (by decide) (Nat.le_of_ble_eq_true rfl) rfl ?_
  intro X F hQ
  refine kx_iload_n 1 F 1 dX12_wrongPlace_0 rfl rfl rfl ?_
  refine kx_Si 4 F (As := [vI a1]) (st := []) sd_X12_134 (e_X12_isTray G l M a1 hI_M (by omega)) ⟨by decide, by decide⟩ rfl rfl (Nat.le_of_ble_eq_true rfl) dX12_wrongPlace_1 rfl ?_
  intro r_1 N_2 q_3
  obtain ⟨rfl, q_3c⟩ := q_3
  rcases q_3c with q_3c | q_3c | q_3c
  · refine kx_if_ne 7 F 11 dX12_wrongPlace_4 (by decide) rfl (by omega) (fun h_4 => ?_) (fun h_4 => (by exfalso; omega))
    refine kx_aload_n 12 F 0 dX12_wrongPlace_11 rfl rfl rfl ?_
    refine kx_getr 15 F fl_X12_24 kd_163 rfl rfl (j := 6) rfl dX12_wrongPlace_12 (v := 167) (uq_167 (Inv.r hI_M kd_163 rfl 6 rfl rfl)) rfl ?_
    refine kx_iload_n 16 F 1 dX12_wrongPlace_15 rfl rfl rfl ?_
    refine kx_iald 17 F kd_167 rfl rfl (by omega) (by decide) dX12_wrongPlace_16 (v := (M 167 a1)) rfl rfl ?_
    have h_5 := Inv.g hI_M kd_167 rfl a1 (a := (-1)) (b := 60) rfl rfl
    refine kx_iconst 18 F dX12_wrongPlace_17 rfl ?_
    refine kx_icmp_ne 21 F 25 dX12_wrongPlace_18 (by decide) rfl (by omega) (by decide) (fun h_6 => ?_) (fun h_6 => ?_)
    · refine kx_iload_n 26 F 2 dX12_wrongPlace_25 rfl rfl rfl ?_
      refine kx_if_lt 29 F 39 dX12_wrongPlace_26 (by decide) rfl (by omega) (fun h_7 => ?_) (fun h_7 => ?_)
      · refine kx_iconst 40 F dX12_wrongPlace_39 rfl ?_
        refine kx_goto 44 F dX12_wrongPlace_40 (by decide) ?_
        exact kx_iret F hQ ⟨rfl, (Or.inr (Or.inr (Or.inr (Or.inr (Or.inl (by omega))))))⟩ dX12_wrongPlace_44
      · refine kx_iload_n 30 F 2 dX12_wrongPlace_29 rfl rfl rfl ?_
        refine kx_aload_n 31 F 0 dX12_wrongPlace_30 rfl rfl rfl ?_
        refine kx_getr 34 F fl_X12_24 kd_163 rfl rfl (j := 6) rfl dX12_wrongPlace_31 (v := 167) (uq_167 (Inv.r hI_M kd_163 rfl 6 rfl rfl)) rfl ?_
        refine kx_iload_n 35 F 1 dX12_wrongPlace_34 rfl rfl rfl ?_
        refine kx_iald 36 F kd_167 rfl rfl (by omega) (by decide) dX12_wrongPlace_35 (v := (M 167 a1)) rfl rfl ?_
        refine kx_icmp_lt 39 F 43 dX12_wrongPlace_36 (by decide) rfl (by omega) (by omega) (fun h_8 => ?_) (fun h_8 => ?_)
        · refine kx_iconst 44 F dX12_wrongPlace_43 rfl ?_
          exact kx_iret F hQ ⟨rfl, (Or.inl (by omega))⟩ dX12_wrongPlace_44
        · refine kx_iconst 40 F dX12_wrongPlace_39 rfl ?_
          refine kx_goto 44 F dX12_wrongPlace_40 (by decide) ?_
          exact kx_iret F hQ ⟨rfl, (Or.inr (Or.inr (Or.inr (Or.inr (Or.inr (by omega))))))⟩ dX12_wrongPlace_44
    · refine kx_iconst 22 F dX12_wrongPlace_21 rfl ?_
      refine kx_goto 44 F dX12_wrongPlace_22 (by decide) ?_
      exact kx_iret F hQ ⟨rfl, (Or.inr (Or.inr (Or.inr (Or.inl (by omega)))))⟩ dX12_wrongPlace_44
  · refine kx_if_ne 7 F 11 dX12_wrongPlace_4 (by decide) rfl (by omega) (fun h_9 => (by exfalso; omega)) (fun h_9 => ?_)
    refine kx_iconst 8 F dX12_wrongPlace_7 rfl ?_
    refine kx_goto 44 F dX12_wrongPlace_8 (by decide) ?_
    exact kx_iret F hQ ⟨rfl, (Or.inr (Or.inl (by omega)))⟩ dX12_wrongPlace_44
  · refine kx_if_ne 7 F 11 dX12_wrongPlace_4 (by decide) rfl (by omega) (fun h_10 => (by exfalso; omega)) (fun h_10 => ?_)
    refine kx_iconst 8 F dX12_wrongPlace_7 rfl ?_
    refine kx_goto 44 F dX12_wrongPlace_8 (by decide) ?_
    exact kx_iret F hQ ⟨rfl, (Or.inr (Or.inr (Or.inl (by omega))))⟩ dX12_wrongPlace_44
