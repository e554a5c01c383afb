/-! what holds between the cells of the class beside their ranges: a Setting's numbers, the shelves -/
theorem mu_at (M : Mem) (c i v j : Int) : mu M c i v c j = if j = i then v else M c j := by
  unfold mu
  by_cases h : j = i
  · rw [if_pos ⟨rfl, h⟩, if_pos h]
  · rw [if_neg (fun q => h q.2), if_neg h]
def SX (M : Mem) : Prop := ∀ c, kd c = 12 → M c 0 ≤ M c 1 ∧ M c 1 ≤ M c 0 + 2 ∧ M c 1 ≤ M c 2 ∧ M c 2 ≤ M c 1 + 2
def ShOK (n : Int) (M : Mem) (c : Int) : Prop := (∀ i, 0 ≤ i → i < M c 0 → ¬ M (M c 4) (M (M c 1) i) = 0) ∧ (∀ i j, 0 ≤ i → i < M c 0 → 0 ≤ j → j < M c 0 → M (M c 1) i = M (M c 1) j → i = j) ∧ ∀ m, 0 ≤ m → m < n → ¬ M (M c 4) m = 0 → ∃ i, 0 ≤ i ∧ i < M c 0 ∧ M (M c 1) i = m
def XX (M : Mem) : Prop := SX M ∧ (∀ c, kd c = 26 → ShOK 576 M c) ∧ (∀ c, kd c = 31 → ShOK 48 M c) ∧ ∀ c, kd c = 36 → ShOK 576 M c
def xk (p : Nat × Int) : Nat := if p.1 = 12 then (if p.2 = 0 ∨ p.2 = 1 ∨ p.2 = 2 ∨ p.2 = -1 then 4 else 0) else if p.1 = 26 ∨ p.1 = 27 ∨ p.1 = 30 then 1 else if p.1 = 31 ∨ p.1 = 32 ∨ p.1 = 35 then 2 else if p.1 = 36 ∨ p.1 = 37 ∨ p.1 = 40 then 3 else 0
def xo (ex : Nat) (L : List (Nat × Int)) : Bool := L.all (fun p => xk p == 0 || xk p == ex)
theorem fin_not {L : List (Nat × Int)} {k ex : Nat} {i : Int} (ho : xo ex L = true) (h : ∀ q, q = -1 ∨ q = i → xk (k, q) ≠ 0 ∧ xk (k, q) ≠ ex) : fin L k i = false := by
  cases hx : fin L k i with
  | false => rfl
  | true =>
    unfold fin at hx
    obtain ⟨⟨a, b⟩, hp, h1⟩ := List.any_eq_true.mp hx
    have h2 := List.all_eq_true.mp ho _ hp
    simp only [Bool.and_eq_true, beq_iff_eq, Bool.or_eq_true] at h1 h2
    obtain ⟨rfl, h3⟩ := h1
    have h4 := h b h3
    rcases h2 with h2 | h2
    · exact absurd h2 h4.1
    · exact absurd h2 h4.2
theorem ShOK.tr {n : Int} {M N : Mem} {c : Int} (h : ShOK n M c) (h0 : N c 0 = M c 0) (h1 : N c 1 = M c 1) (h4 : N c 4 = M c 4) (hi : ∀ i, N (M c 1) i = M (M c 1) i) (hm : ∀ i, N (M c 4) i = M (M c 4) i) : ShOK n N c := by
  unfold ShOK
  simp only [h0, h1, h4, hi, hm]
  exact h
theorem ShOK.by {n : Int} {M N : Mem} {c : Int} {L : List (Nat × Int)} {kc ki km ex : Nat} (h : ShOK n M c) (hI : Inv false M) (hF : Fr L M N) (ho : xo ex L = true) (hc : kd c = kc) (hw : kW false kc = true) (r1 : rk kc 1 = ki) (r4 : rk kc 4 = km) (n1 : (ki == 0) = false) (n4 : (km == 0) = false) (x0 : ∀ q, xk (kc, q) ≠ 0 ∧ xk (kc, q) ≠ ex) (x1 : ∀ q, xk (ki, q) ≠ 0 ∧ xk (ki, q) ≠ ex) (x4 : ∀ q, xk (km, q) ≠ 0 ∧ xk (km, q) ≠ ex) : ShOK n N c := by
  have k1 := hI.r hc hw 1 r1 n1
  have k4 := hI.r hc hw 4 r4 n4
  exact h.tr (hF c 0 (by rw [hc]; exact fin_not ho (fun q _ => x0 q))) (hF c 1 (by rw [hc]; exact fin_not ho (fun q _ => x0 q))) (hF c 4 (by rw [hc]; exact fin_not ho (fun q _ => x0 q))) (fun i => hF _ i (by rw [k1]; exact fin_not ho (fun q _ => x1 q))) (fun i => hF _ i (by rw [k4]; exact fin_not ho (fun q _ => x4 q)))
theorem XX.gen (ex : Nat) {L : List (Nat × Int)} {M N : Mem} (hX : XX M) (hI : Inv false M) (hF : Fr L M N) (ho : xo ex L = true) (hx : ex = 0 ∨ ex = 1 ∨ ex = 2 ∨ ex = 3 ∨ ex = 4) (h4 : ex = 4 → SX N) (h1 : ex = 1 → ∀ c, kd c = 26 → ShOK 576 N c) (h2 : ex = 2 → ∀ c, kd c = 31 → ShOK 48 N c) (h3 : ex = 3 → ∀ c, kd c = 36 → ShOK 576 N c) : XX N := by
  refine ⟨?_, ?_, ?_, ?_⟩
  · by_cases e : ex = 4
    · exact h4 e
    · intro c hc
      have q : ∀ i : Int, (i = 0 ∨ i = 1 ∨ i = 2) → N c i = M c i := fun i hi => hF c i (by
        rw [hc]
        refine fin_not ho (fun q hq => ?_)
        have hq2 : q = 0 ∨ q = 1 ∨ q = 2 ∨ q = -1 := by omega
        have : xk (12, q) = 4 := by unfold xk; rw [if_pos rfl, if_pos hq2]
        rw [this]; exact ⟨by decide, fun z => e z.symm⟩)
      rw [q 0 (by omega), q 1 (by omega), q 2 (by omega)]
      exact hX.1 c hc
  · by_cases e : ex = 1
    · exact h1 e
    · intro c hc
      exact (hX.2.1 c hc).by hI hF ho hc rfl rfl rfl rfl rfl (fun q => ⟨by show (1 : Nat) ≠ 0; decide, by show (1 : Nat) ≠ ex; omega⟩) (fun q => ⟨by show (1 : Nat) ≠ 0; decide, by show (1 : Nat) ≠ ex; omega⟩) (fun q => ⟨by show (1 : Nat) ≠ 0; decide, by show (1 : Nat) ≠ ex; omega⟩)
  · by_cases e : ex = 2
    · exact h2 e
    · intro c hc
      exact (hX.2.2.1 c hc).by hI hF ho hc rfl rfl rfl rfl rfl (fun q => ⟨by show (2 : Nat) ≠ 0; decide, by show (2 : Nat) ≠ ex; omega⟩) (fun q => ⟨by show (2 : Nat) ≠ 0; decide, by show (2 : Nat) ≠ ex; omega⟩) (fun q => ⟨by show (2 : Nat) ≠ 0; decide, by show (2 : Nat) ≠ ex; omega⟩)
  · by_cases e : ex = 3
    · exact h3 e
    · intro c hc
      exact (hX.2.2.2 c hc).by hI hF ho hc rfl rfl rfl rfl rfl (fun q => ⟨by show (3 : Nat) ≠ 0; decide, by show (3 : Nat) ≠ ex; omega⟩) (fun q => ⟨by show (3 : Nat) ≠ 0; decide, by show (3 : Nat) ≠ ex; omega⟩) (fun q => ⟨by show (3 : Nat) ≠ 0; decide, by show (3 : Nat) ≠ ex; omega⟩)
theorem XX.fr {L : List (Nat × Int)} {M N : Mem} (hX : XX M) (hI : Inv false M) (hF : Fr L M N) (ho : xo 0 L = true) : XX N := XX.gen 0 hX hI hF ho (by decide) (fun h => by cases h) (fun h => by cases h) (fun h => by cases h) (fun h => by cases h)
theorem kd_one (a : Nat) (k : Nat) (h : ∀ j, j < 194 → kdl.getD j 0 = k → j = a) (hk : k ≠ 0) {c : Int} (hc : kd c = k) : c = a := by
  obtain ⟨h1, h2⟩ := kd_lt (c := c) (by rw [hc]; exact hk)
  have h4 : kdl.getD c.toNat 0 = k := by
    rw [← hc]; unfold kd; rw [if_neg (by omega)]
  have := h c.toNat (by omega) h4
  omega
theorem un_A {c : Int} (hc : kd c = 26) : c = 30 := kd_one 30 26 (by decide +kernel) (by decide) hc
theorem un_B {c : Int} (hc : kd c = 31) : c = 40 := kd_one 40 31 (by decide +kernel) (by decide) hc
theorem un_C {c : Int} (hc : kd c = 36) : c = 35 := kd_one 35 36 (by decide +kernel) (by decide) hc
theorem XX.set {L : List (Nat × Int)} {M N : Mem} (hX : XX M) (hI : Inv false M) (hF : Fr L M N) (ho : xo 4 L = true) (hs : SX N) : XX N := XX.gen 4 hX hI hF ho (by decide) (fun _ => hs) (fun h => by cases h) (fun h => by cases h) (fun h => by cases h)
