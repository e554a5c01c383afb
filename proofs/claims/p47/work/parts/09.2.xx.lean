/-! what holds between the cells of the class beside their ranges: a Setting's numbers, the shelves -/
theorem mu_at (M : Mem) (c i v j : Int) : mu M c i v c j = if j = i then v else M c j := by
  unfold mu
  by_cases h : j = i
  · rw [if_pos ⟨rfl, h⟩, if_pos h]
  · rw [if_neg (fun q => h q.2), if_neg h]
def SX (M : Mem) : Prop := ∀ c, kd c = 12 → M c 0 ≤ M c 1 ∧ M c 1 ≤ M c 0 + 2 ∧ M c 1 ≤ M c 2 ∧ M c 2 ≤ M c 1 + 2
def ShOK (n : Int) (M : Mem) (c : Int) : Prop := (∀ i, 0 ≤ i → i < M c 0 → ¬ M (M c 4) (M (M c 1) i) = 0) ∧ (∀ i j, 0 ≤ i → i < M c 0 → 0 ≤ j → j < M c 0 → M (M c 1) i = M (M c 1) j → i = j) ∧ ∀ m, 0 ≤ m → m < n → ¬ M (M c 4) m = 0 → ∃ i, 0 ≤ i ∧ i < M c 0 ∧ M (M c 1) i = m
def XX (M : Mem) : Prop := SX M ∧ (∀ c, kd c = 26 → ShOK 576 M c) ∧ (∀ c, kd c = 31 → ShOK 48 M c) ∧ ∀ c, kd c = 36 → ShOK 576 M c
def xk (p : Nat × Int) : Nat := if p.1 = 12 then (if p.2 = 0 ∨ p.2 = 1 ∨ p.2 = 2 ∨ p.2 = -1 then 4 else 0) else if p.1 = 26 ∨ p.1 = 27 ∨ p.1 = 30 then 1 else if p.1 = 31 ∨ p.1 = 32 ∨ p.1 = 35 then 2 else if p.1 = 36 ∨ p.1 = 37 ∨ p.1 = 40 then 3 else 0
def xo (ex : Nat) (L : List (Nat × Int)) : Bool := L.all (fun p => xk p == 0 || xk p == ex)
theorem fin_not {L : List (Nat × Int)} {k ex : Nat} {i : Int} (ho : xo ex L = true) (h : ∀ q, q = -1 ∨ q = i → xk (k, q) ≠ 0 ∧ xk (k, q) ≠ ex) : fin L k i = false := by
  cases hx : fin L k i with
  | false => rfl
  | true =>
    unfold fin at hx
    obtain ⟨⟨a, b⟩, hp, h1⟩ := List.any_eq_true.mp hx
    have h2 := List.all_eq_true.mp ho _ hp
    simp only [Bool.and_eq_true, beq_iff_eq, Bool.or_eq_true] at h1 h2
    obtain ⟨rfl, h3⟩ := h1
    have h4 := h b h3
    rcases h2 with h2 | h2
    · exact absurd h2 h4.1
    · exact absurd h2 h4.2
theorem ShOK.tr {n : Int} {M N : Mem} {c : Int} (h : ShOK n M c) (h0 : N c 0 = M c 0) (h1 : N c 1 = M c 1) (h4 : N c 4 = M c 4) (hi : ∀ i, N (M c 1) i = M (M c 1) i) (hm : ∀ i, N (M c 4) i = M (M c 4) i) : ShOK n N c := by
  unfold ShOK
  simp only [h0, h1, h4, hi, hm]
  exact h
theorem ShOK.by {n : Int} {M N : Mem} {c : Int} {L : List (Nat × Int)} {kc ki km ex : Nat} (h : ShOK n M c) (hI : Inv false M) (hF : Fr L M N) (ho : xo ex L = true) (hc : kd c = kc) (hw : kW false kc = true) (r1 : rk kc 1 = ki) (r4 : rk kc 4 = km) (n1 : (ki == 0) = false) (n4 : (km == 0) = false) (x0 : ∀ q, xk (kc, q) ≠ 0 ∧ xk (kc, q) ≠ ex) (x1 : ∀ q, xk (ki, q) ≠ 0 ∧ xk (ki, q) ≠ ex) (x4 : ∀ q, xk (km, q) ≠ 0 ∧ xk (km, q) ≠ ex) : ShOK n N c := by
  have k1 := hI.r hc hw 1 r1 n1
  have k4 := hI.r hc hw 4 r4 n4
  exact h.tr (hF c 0 (by rw [hc]; exact fin_not ho (fun q _ => x0 q))) (hF c 1 (by rw [hc]; exact fin_not ho (fun q _ => x0 q))) (hF c 4 (by rw [hc]; exact fin_not ho (fun q _ => x0 q))) (fun i => hF _ i (by rw [k1]; exact fin_not ho (fun q _ => x1 q))) (fun i => hF _ i (by rw [k4]; exact fin_not ho (fun q _ => x4 q)))
theorem XX.gen (ex : Nat) {L : List (Nat × Int)} {M N : Mem} (hX : XX M) (hI : Inv false M) (hF : Fr L M N) (ho : xo ex L = true) (hx : ex = 0 ∨ ex = 1 ∨ ex = 2 ∨ ex = 3 ∨ ex = 4) (h4 : ex = 4 → SX N) (h1 : ex = 1 → ∀ c, kd c = 26 → ShOK 576 N c) (h2 : ex = 2 → ∀ c, kd c = 31 → ShOK 48 N c) (h3 : ex = 3 → ∀ c, kd c = 36 → ShOK 576 N c) : XX N := by
  refine ⟨?_, ?_, ?_, ?_⟩
  · by_cases e : ex = 4
    · exact h4 e
    · intro c hc
      have q : ∀ i : Int, (i = 0 ∨ i = 1 ∨ i = 2) → N c i = M c i := fun i hi => hF c i (by
        rw [hc]
        refine fin_not ho (fun q hq => ?_)
        have hq2 : q = 0 ∨ q = 1 ∨ q = 2 ∨ q = -1 := by omega
        have : xk (12, q) = 4 := by unfold xk; rw [if_pos rfl, if_pos hq2]
        rw [this]; exact ⟨by decide, fun z => e z.symm⟩)
      rw [q 0 (by omega), q 1 (by omega), q 2 (by omega)]
      exact hX.1 c hc
  · by_cases e : ex = 1
    · exact h1 e
    · intro c hc
      exact (hX.2.1 c hc).by hI hF ho hc rfl rfl rfl rfl rfl (fun q => ⟨by show (1 : Nat) ≠ 0; decide, by show (1 : Nat) ≠ ex; omega⟩) (fun q => ⟨by show (1 : Nat) ≠ 0; decide, by show (1 : Nat) ≠ ex; omega⟩) (fun q => ⟨by show (1 : Nat) ≠ 0; decide, by show (1 : Nat) ≠ ex; omega⟩)
  · by_cases e : ex = 2
    · exact h2 e
    · intro c hc
      exact (hX.2.2.1 c hc).by hI hF ho hc rfl rfl rfl rfl rfl (fun q => ⟨by show (2 : Nat) ≠ 0; decide, by show (2 : Nat) ≠ ex; omega⟩) (fun q => ⟨by show (2 : Nat) ≠ 0; decide, by show (2 : Nat) ≠ ex; omega⟩) (fun q => ⟨by show (2 : Nat) ≠ 0; decide, by show (2 : Nat) ≠ ex; omega⟩)
  · by_cases e : ex = 3
    · exact h3 e
    · intro c hc
      exact (hX.2.2.2 c hc).by hI hF ho hc rfl rfl rfl rfl rfl (fun q => ⟨by show (3 : Nat) ≠ 0; decide, by show (3 : Nat) ≠ ex; omega⟩) (fun q => ⟨by show (3 : Nat) ≠ 0; decide, by show (3 : Nat) ≠ ex; omega⟩) (fun q => ⟨by show (3 : Nat) ≠ 0; decide, by show (3 : Nat) ≠ ex; omega⟩)
theorem XX.fr {L : List (Nat × Int)} {M N : Mem} (hX : XX M) (hI : Inv false M) (hF : Fr L M N) (ho : xo 0 L = true) : XX N := XX.gen 0 hX hI hF ho (by decide) (fun h => by cases h) (fun h => by cases h) (fun h => by cases h) (fun h => by cases h)
theorem XX.st {M N : Mem} (hX : XX M) (hI : Inv false M) {c i v : Int} (hN : N = mu M c i v) {kn : Nat} (hk : kd c = kn) (ho : xk (kn, i) = 0) : XX N := XX.fr (L := [(kn, i)]) hX hI (Fr.u (Fr.rf _ M) hN hk (by unfold fin; simp)) (by unfold xo; simp [ho])
theorem kd_one (a : Nat) (k : Nat) (h : ∀ j, j < 194 → kdl.getD j 0 = k → j = a) (hk : k ≠ 0) {c : Int} (hc : kd c = k) : c = a := by
  obtain ⟨h1, h2⟩ := kd_lt (c := c) (by rw [hc]; exact hk)
  have h4 : kdl.getD c.toNat 0 = k := by
    rw [← hc]; unfold kd; rw [if_neg (by omega)]
  have := h c.toNat (by omega) h4
  omega
theorem un_A {c : Int} (hc : kd c = 26) : c = 30 := kd_one 30 26 (by decide +kernel) (by decide) hc
theorem un_B {c : Int} (hc : kd c = 31) : c = 40 := kd_one 40 31 (by decide +kernel) (by decide) hc
theorem un_C {c : Int} (hc : kd c = 36) : c = 35 := kd_one 35 36 (by decide +kernel) (by decide) hc
theorem XX.shA {L : List (Nat × Int)} {M N : Mem} (hX : XX M) (hI : Inv false M) (hF : Fr L M N) (ho : xo 1 L = true) {c : Int} (hc : kd c = 26) (hs : ShOK 576 N c) : XX N := XX.gen 1 hX hI hF ho (by decide) (fun h => by cases h) (fun _ d hd => by rw [un_A hd, ← un_A hc]; exact hs) (fun h => by cases h) (fun h => by cases h)
theorem XX.shB {L : List (Nat × Int)} {M N : Mem} (hX : XX M) (hI : Inv false M) (hF : Fr L M N) (ho : xo 2 L = true) {c : Int} (hc : kd c = 31) (hs : ShOK 48 N c) : XX N := XX.gen 2 hX hI hF ho (by decide) (fun h => by cases h) (fun h => by cases h) (fun _ d hd => by rw [un_B hd, ← un_B hc]; exact hs) (fun h => by cases h)
theorem XX.shC {L : List (Nat × Int)} {M N : Mem} (hX : XX M) (hI : Inv false M) (hF : Fr L M N) (ho : xo 3 L = true) {c : Int} (hc : kd c = 36) (hs : ShOK 576 N c) : XX N := XX.gen 3 hX hI hF ho (by decide) (fun h => by cases h) (fun h => by cases h) (fun h => by cases h) (fun _ d hd => by rw [un_C hd, ← un_C hc]; exact hs)
theorem XX.set {L : List (Nat × Int)} {M N : Mem} (hX : XX M) (hI : Inv false M) (hF : Fr L M N) (ho : xo 4 L = true) (hs : SX N) : XX N := XX.gen 4 hX hI hF ho (by decide) (fun _ => hs) (fun h => by cases h) (fun h => by cases h) (fun h => by cases h)
theorem SX.one {M N : Mem} (h : SX M) {c0 : Int} (ho : ∀ c, kd c = 12 → ¬ c = c0 → N c 0 = M c 0 ∧ N c 1 = M c 1 ∧ N c 2 = M c 2) (h0 : N c0 0 ≤ N c0 1 ∧ N c0 1 ≤ N c0 0 + 2 ∧ N c0 1 ≤ N c0 2 ∧ N c0 2 ≤ N c0 1 + 2) : SX N := by
  intro c hc
  by_cases e : c = c0
  · subst e; exact h0
  · obtain ⟨h1, h2, h3⟩ := ho c hc e
    rw [h1, h2, h3]; exact h c hc
/-! shelves -/
theorem pig : ∀ (n s : Nat) (f : Nat → Nat), (∀ i, i < s → f i < n) → (∀ i j, i < s → j < s → f i = f j → i = j) → s ≤ n := by
  intro n
  induction n with
  | zero =>
    intro s f h1 h2
    cases s with
    | zero => exact Nat.le_refl _
    | succ s => exact absurd (h1 0 (by omega)) (by omega)
  | succ n ih =>
    intro s f h1 h2
    cases s with
    | zero => omega
    | succ s =>
      have := ih s (fun i => if f i = n then f s else f i) (fun i hi => by
        have a1 := h1 i (by omega)
        have a2 := h1 s (by omega)
        by_cases c : f i = n
        · have : ¬ f s = n := fun q => by have := h2 i s (by omega) (by omega) (by omega); omega
          simp only [c, if_true]; omega
        · simp only [c, if_false]; omega) (fun i j hi hj he => by
        by_cases c : f i = n
        · by_cases d : f j = n
          · exact h2 i j (by omega) (by omega) (by omega)
          · simp only [c, d, if_true, if_false] at he
            have := h2 s j (by omega) (by omega) he; omega
        · by_cases d : f j = n
          · simp only [c, d, if_true, if_false] at he
            have := h2 i s (by omega) (by omega) he; omega
          · simp only [c, d, if_false] at he
            exact h2 i j (by omega) (by omega) he)
      omega
theorem ShOK.lt {n : Int} {M : Mem} {c m : Int} (h : ShOK n M c) (hs : 0 ≤ M c 0) (hr : ∀ i, 0 ≤ M (M c 1) i ∧ M (M c 1) i < n) (hm : 0 ≤ m ∧ m < n) (h0 : M (M c 4) m = 0) : M c 0 < n := by
  obtain ⟨a1, a2, a3⟩ := h
  have := pig n.toNat ((M c 0).toNat + 1) (fun i => if i = (M c 0).toNat then m.toNat else (M (M c 1) i).toNat) (fun i hi => by
    by_cases e : i = (M c 0).toNat
    · simp only [e, if_true]; omega
    · simp only [e, if_false]; have := hr i; omega) (fun i j hi hj he => by
    by_cases e : i = (M c 0).toNat
    · by_cases d : j = (M c 0).toNat
      · omega
      · simp only [e, d, if_true, if_false] at he
        have b1 := hr j
        have b2 := a1 j (by omega) (by omega)
        rw [show M (M c 1) (j : Int) = m by omega] at b2
        exact absurd h0 b2
    · by_cases d : j = (M c 0).toNat
      · simp only [e, d, if_true, if_false] at he
        have b1 := hr i
        have b2 := a1 i (by omega) (by omega)
        rw [show M (M c 1) (i : Int) = m by omega] at b2
        exact absurd h0 b2
      · simp only [e, d, if_false] at he
        have b1 := hr i
        have b2 := hr j
        have := a2 i j (by omega) (by omega) (by omega) (by omega) (by omega)
        omega)
  omega
theorem ShOK.ins {n : Int} {M N : Mem} {c m : Int} (h : ShOK n M c) (hs : 0 ≤ M c 0) (h0 : M (M c 4) m = 0) (e0 : N c 0 = M c 0 + 1) (e1 : N c 1 = M c 1) (e4 : N c 4 = M c 4) (ei : ∀ i, N (M c 1) i = if i = M c 0 then m else M (M c 1) i) (em : ∀ i, N (M c 4) i = if i = m then 1 else M (M c 4) i) : ShOK n N c := by
  obtain ⟨a1, a2, a3⟩ := h
  unfold ShOK
  simp only [e0, e1, e4, ei, em]
  refine ⟨fun i hi hj => ?_, fun i j hi hi2 hj hj2 he => ?_, fun q hq hq2 hne => ?_⟩
  · by_cases e : i = M c 0
    · simp [e]
    · simp only [e, if_false]
      have := a1 i hi (by omega)
      split
      · decide
      · exact this
  · by_cases e : i = M c 0
    · by_cases d : j = M c 0
      · omega
      · simp only [e, d, if_true, if_false] at he
        have := a1 j hj (by omega)
        rw [← he] at this; exact absurd h0 this
    · by_cases d : j = M c 0
      · simp only [e, d, if_true, if_false] at he
        have := a1 i hi (by omega)
        rw [he] at this; exact absurd h0 this
      · simp only [e, d, if_false] at he
        exact a2 i j hi (by omega) hj (by omega) he
  · by_cases e : q = m
    · exact ⟨M c 0, hs, by omega, by simp [e]⟩
    · rw [if_neg e] at hne
      obtain ⟨i, b1, b2, b3⟩ := a3 q hq hq2 hne
      exact ⟨i, b1, by omega, by rw [if_neg (by omega)]; exact b3⟩
theorem ShOK.mood {n : Int} {M N : Mem} {c m v : Int} (h : ShOK n M c) (h0 : ¬ M (M c 4) m = 0) (hv : ¬ v = 0) (e0 : N c 0 = M c 0) (e1 : N c 1 = M c 1) (e4 : N c 4 = M c 4) (ei : ∀ i, N (M c 1) i = M (M c 1) i) (em : ∀ i, N (M c 4) i = if i = m then v else M (M c 4) i) : ShOK n N c := by
  obtain ⟨a1, a2, a3⟩ := h
  unfold ShOK
  simp only [e0, e1, e4, ei, em]
  refine ⟨fun i hi hj => ?_, a2, fun q hq hq2 hne => ?_⟩
  · have := a1 i hi hj
    split
    · exact hv
    · exact this
  · by_cases e : q = m
    · subst e; exact a3 q hq hq2 h0
    · rw [if_neg e] at hne; exact a3 q hq hq2 hne
/-- while a shelf is cleared: what is still on it stands from place i on -/
def ShCl (n : Int) (M N : Mem) (c i : Int) : Prop := N c 0 = M c 0 ∧ N c 1 = M c 1 ∧ N c 4 = M c 4 ∧ (∀ j, N (M c 1) j = M (M c 1) j) ∧ ∀ m, 0 ≤ m → m < n → ¬ N (M c 4) m = 0 → ∃ j, i ≤ j ∧ j < M c 0 ∧ M (M c 1) j = m
theorem ShCl.start {n : Int} {M : Mem} {c : Int} (h : ShOK n M c) : ShCl n M M c 0 := ⟨rfl, rfl, rfl, fun _ => rfl, h.2.2⟩
theorem ShCl.step {n : Int} {M N N' : Mem} {c i : Int} (h : ShCl n M N c i) (e0 : N' c 0 = N c 0) (e1 : N' c 1 = N c 1) (e4 : N' c 4 = N c 4) (ei : ∀ j, N' (M c 1) j = N (M c 1) j) (em : ∀ j, N' (M c 4) j = if j = M (M c 1) i then 0 else N (M c 4) j) : ShCl n M N' c (i + 1) := by
  obtain ⟨a0, a1, a4, ai, a5⟩ := h
  refine ⟨e0.trans a0, e1.trans a1, e4.trans a4, fun j => (ei j).trans (ai j), fun m h1 h2 h3 => ?_⟩
  rw [em] at h3
  by_cases e : m = M (M c 1) i
  · rw [if_pos e] at h3; exact absurd rfl h3
  · rw [if_neg e] at h3
    obtain ⟨j, b1, b2, b3⟩ := a5 m h1 h2 h3
    refine ⟨j, ?_, b2, b3⟩
    by_cases d : j = i
    · subst d; exact absurd b3.symm e
    · omega
theorem ShCl.done {n : Int} {M N N' : Mem} {c i : Int} (h : ShCl n M N c i) (hi : M c 0 ≤ i) (e0 : N' c 0 = 0) (e1 : N' c 1 = N c 1) (e4 : N' c 4 = N c 4) (em : ∀ j, N' (M c 4) j = N (M c 4) j) : ShOK n N' c := by
  obtain ⟨a0, a1, a4, ai, a5⟩ := h
  refine ⟨fun j h1 h2 => by omega, fun j k h1 h2 => by omega, fun m h1 h2 h3 => ?_⟩
  rw [e4, a4, em] at h3
  obtain ⟨j, b1, b2, b3⟩ := a5 m h1 h2 h3
  omega
/-- the first n numbers of a tray are LETTERS -/
def WD (M : Mem) (c t n : Int) : Prop := ∀ i, 0 ≤ i → i < n → 0 ≤ M (M (M c 3) 0) (60 * t + i) ∧ M (M (M c 3) 0) (60 * t + i) ≤ 5
theorem WD.step {M : Mem} {c t n : Int} (h : WD M c t n) (h1 : 0 ≤ M (M (M c 3) 0) (60 * t + n) ∧ M (M (M c 3) 0) (60 * t + n) ≤ 5) : WD M c t (n + 1) := fun i a b => by
  by_cases e : i = n
  · rw [e]; exact h1
  · exact h i a (by omega)
theorem WD.mono {M : Mem} {c t n m : Int} (h : WD M c t n) (hm : m ≤ n) : WD M c t m := fun i a b => h i a (by omega)
