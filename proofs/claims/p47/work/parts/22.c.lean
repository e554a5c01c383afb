/-! the rules lead from states to states -/
def RWs (A : Int → Int) (s : Int) : Prop := ∀ a k, 0 ≤ a → a ≤ 1 → 0 ≤ k → k < A (272 * s + 104 + 85 * a) → A (272 * s + 106 + 85 * a + 4 * k) < A (272 * s + 100 + 85 * a) ∧ A (272 * s + 107 + 85 * a + 4 * k) < A (272 * s + 100 + 85 * a)
theorem RWs.eq {A A' : Int → Int} {s : Int} (h : RWs A s) (hx : ∀ j, 272 * s + 100 ≤ j → j < 272 * s + 270 → A' j = A j) (hc : ∀ a, 0 ≤ a → a ≤ 1 → A (272 * s + 104 + 85 * a) ≤ 20) : RWs A' s := by
  intro a k h0 h1 hk hl
  have e1 := hx (272 * s + 104 + 85 * a) (by omega) (by omega)
  have c1 := hc a h0 h1
  rw [e1] at hl
  have q := h a k h0 h1 hk hl
  rw [hx (272 * s + 106 + 85 * a + 4 * k) (by omega) (by omega), hx (272 * s + 107 + 85 * a + 4 * k) (by omega) (by omega), hx (272 * s + 100 + 85 * a) (by omega) (by omega)]
  exact q
theorem RWs.sets {A A' : Int → Int} {s i : Int} (h : RWs A s) (hx : ∀ j, ¬ j = i → A' j = A j) (hi : i < 272 * s + 100 ∨ 272 * s + 270 ≤ i ∨ (272 * s + 100 < i ∧ i < 272 * s + 104) ∨ (272 * s + 185 < i ∧ i < 272 * s + 189)) (hc : ∀ a, 0 ≤ a → a ≤ 1 → A (272 * s + 104 + 85 * a) ≤ 20) : RWs A' s := by
  intro a k h0 h1 hk hl
  have ha : a = 0 ∨ a = 1 := by omega
  have c1 := hc a h0 h1
  rw [hx (272 * s + 104 + 85 * a) (by omega)] at hl
  have q := h a k h0 h1 hk hl
  rw [hx (272 * s + 106 + 85 * a + 4 * k) (by omega), hx (272 * s + 107 + 85 * a + 4 * k) (by omega), hx (272 * s + 100 + 85 * a) (by omega)]
  exact q
theorem RWs.rule {A A' : Int → Int} {s : Int} (h : RWs A s) (b m : Int) (hb : 0 ≤ b ∧ b ≤ 1) (hm : m = A (272 * s + 104 + 85 * b) ∧ 0 ≤ m ∧ m ≤ 19) (hc : ∀ a, 0 ≤ a → a ≤ 1 → A (272 * s + 104 + 85 * a) ≤ 20)
    (hx : ∀ j, (j < 272 * s + 105 + 85 * b + 4 * m ∨ 272 * s + 108 + 85 * b + 4 * m < j) → ¬ j = 272 * s + 104 + 85 * b → A' j = A j) (hn : A' (272 * s + 104 + 85 * b) = m + 1) (h1 : A' (272 * s + 106 + 85 * b + 4 * m) < A (272 * s + 100 + 85 * b)) (h2 : A' (272 * s + 107 + 85 * b + 4 * m) < A (272 * s + 100 + 85 * b)) : RWs A' s := by
  intro a k h0 h1' hk hl
  have ha : a = 0 ∨ a = 1 := by omega
  have hb2 : b = 0 ∨ b = 1 := by omega
  have c1 := hc a h0 h1'
  rw [hx (272 * s + 100 + 85 * a) (by omega) (by omega)]
  by_cases e : a = b
  · subst e
    by_cases e2 : k = m
    · subst e2; exact ⟨h1, h2⟩
    · rw [hn] at hl
      rw [hx (272 * s + 106 + 85 * a + 4 * k) (by omega) (by omega), hx (272 * s + 107 + 85 * a + 4 * k) (by omega) (by omega)]
      exact h a k h0 h1' hk (by omega)
  · rw [hx (272 * s + 104 + 85 * a) (by omega) (by omega)] at hl
    rw [hx (272 * s + 106 + 85 * a + 4 * k) (by omega) (by omega), hx (272 * s + 107 + 85 * a + 4 * k) (by omega) (by omega)]
    exact h a k h0 h1' hk hl
theorem RWs.auto {A A' : Int → Int} {s : Int} (h : RWs A s) (b : Int) (hb : 0 ≤ b ∧ b ≤ 1) (hc : ∀ a, 0 ≤ a → a ≤ 1 → A (272 * s + 104 + 85 * a) ≤ 20) (hx : ∀ j, 272 * s + 100 ≤ j → (j < 272 * s + 100 + 85 * b ∨ 272 * s + 104 + 85 * b < j) → A' j = A j) (hn : A' (272 * s + 104 + 85 * b) = 0) : RWs A' s := by
  intro a k h0 h1 hk hl
  have ha : a = 0 ∨ a = 1 := by omega
  have hb2 : b = 0 ∨ b = 1 := by omega
  have c1 := hc a h0 h1
  by_cases e : a = b
  · subst e; omega
  · rw [hx (272 * s + 104 + 85 * a) (by omega) (by omega)] at hl
    have q := h a k h0 h1 hk hl
    rw [hx (272 * s + 106 + 85 * a + 4 * k) (by omega) (by omega), hx (272 * s + 107 + 85 * a + 4 * k) (by omega) (by omega), hx (272 * s + 100 + 85 * a) (by omega) (by omega)]
    exact q
theorem RWs.none {A : Int → Int} {s : Int} (h0 : A (272 * s + 104) = 0) (h1 : A (272 * s + 189) = 0) : RWs A s := by
  intro a k ha ha1 hk hl
  rcases (by omega : a = 0 ∨ a = 1) with rfl | rfl
  · rw [show 272 * s + 104 + 85 * 0 = 272 * s + 104 by omega, h0] at hl; omega
  · rw [show 272 * s + 104 + 85 * 1 = 272 * s + 189 by omega, h1] at hl; omega
theorem RWs.slot {A A' : Int → Int} {s t : Int} (h : RWs A s) (hc : ∀ a, 0 ≤ a → a ≤ 1 → A (272 * s + 104 + 85 * a) ≤ 20) (hx : ∀ j, 0 ≤ j → j < 272 → A' (272 * t + j) = A (272 * s + j)) : RWs A' t := by
  intro a k h0 h1 hk hl
  have c1 := hc a h0 h1
  have e1 := hx (104 + 85 * a) (by omega) (by omega)
  rw [show 272 * t + (104 + 85 * a) = 272 * t + 104 + 85 * a by omega, show 272 * s + (104 + 85 * a) = 272 * s + 104 + 85 * a by omega] at e1
  rw [e1] at hl
  have q := h a k h0 h1 hk hl
  have e2 := hx (106 + 85 * a + 4 * k) (by omega) (by omega)
  rw [show 272 * t + (106 + 85 * a + 4 * k) = 272 * t + 106 + 85 * a + 4 * k by omega, show 272 * s + (106 + 85 * a + 4 * k) = 272 * s + 106 + 85 * a + 4 * k by omega] at e2
  have e3 := hx (107 + 85 * a + 4 * k) (by omega) (by omega)
  rw [show 272 * t + (107 + 85 * a + 4 * k) = 272 * t + 107 + 85 * a + 4 * k by omega, show 272 * s + (107 + 85 * a + 4 * k) = 272 * s + 107 + 85 * a + 4 * k by omega] at e3
  have e4 := hx (100 + 85 * a) (by omega) (by omega)
  rw [show 272 * t + (100 + 85 * a) = 272 * t + 100 + 85 * a by omega, show 272 * s + (100 + 85 * a) = 272 * s + 100 + 85 * a by omega] at e4
  rw [e2, e3, e4]; exact q
theorem RWs.drop {A A' : Int → Int} (h : RWs A 0) (b d m : Int) (hb : 0 ≤ b ∧ b ≤ 1) (hd : 0 ≤ d ∧ d ≤ m) (hm : m = A (104 + 85 * b) - 1) (hc : ∀ a, 0 ≤ a → a ≤ 1 → A (104 + 85 * a) ≤ 20) (hx : ∀ j, (j < 105 + 85 * b + 4 * d ∨ 105 + 85 * b + 4 * m ≤ j) → ¬ j = 104 + 85 * b → A' j = A j) (hy : ∀ j, 105 + 85 * b + 4 * d ≤ j → j < 105 + 85 * b + 4 * m → A' j = A (j + 4)) (hn : A' (104 + 85 * b) = m) : RWs A' 0 := by
  intro a k h0 h1 hk hl
  have ha : a = 0 ∨ a = 1 := by omega
  have hb2 : b = 0 ∨ b = 1 := by omega
  have c2 := hc b hb.1 hb.2
  have c1 := hc a h0 h1
  simp only [Int.mul_zero, Int.zero_add] at hl ⊢
  have q0 := fun k' => h a k' h0 h1
  simp only [Int.mul_zero, Int.zero_add] at q0
  rw [hx (100 + 85 * a) (by omega) (by omega)]
  by_cases e : a = b
  · subst e
    rw [hn] at hl
    by_cases e2 : k < d
    · have q := q0 k hk (by omega)
      rw [hx (106 + 85 * a + 4 * k) (by omega) (by omega), hx (107 + 85 * a + 4 * k) (by omega) (by omega)]
      exact q
    · have q := q0 (k + 1) (by omega) (by omega)
      rw [show 106 + 85 * a + 4 * (k + 1) = 106 + 85 * a + 4 * k + 4 by omega, show 107 + 85 * a + 4 * (k + 1) = 107 + 85 * a + 4 * k + 4 by omega] at q
      rw [hy (106 + 85 * a + 4 * k) (by omega) (by omega), hy (107 + 85 * a + 4 * k) (by omega) (by omega)]
      exact q
  · rw [hx (104 + 85 * a) (by omega) (by omega)] at hl
    have q := q0 k hk hl
    rw [hx (106 + 85 * a + 4 * k) (by omega) (by omega), hx (107 + 85 * a + 4 * k) (by omega) (by omega)]
    exact q
theorem RWs.copy {A A' : Int → Int} (h : RWs A 0) (b c : Int) (hb : 0 ≤ b ∧ b ≤ 1) (hcc : 0 ≤ c ∧ c ≤ 1) (hc : ∀ a, 0 ≤ a → a ≤ 1 → A (104 + 85 * a) ≤ 20) (hx : ∀ j, (j < 100 + 85 * c ∨ 185 + 85 * c ≤ j) → A' j = A j) (hy : ∀ j, 0 ≤ j → j < 85 → A' (100 + 85 * c + j) = A (100 + 85 * b + j)) : RWs A' 0 := by
  intro a k h0 h1 hk hl
  have ha : a = 0 ∨ a = 1 := by omega
  have hb2 : b = 0 ∨ b = 1 := by omega
  have hc2 : c = 0 ∨ c = 1 := by omega
  have c1 := hc a h0 h1
  have c2 := hc b hb.1 hb.2
  simp only [Int.mul_zero, Int.zero_add] at hl ⊢
  have q0 := fun a' k' => h a' k'
  simp only [Int.mul_zero, Int.zero_add] at q0
  by_cases e : a = c
  · subst e
    have e1 := hy 4 (by omega) (by omega)
    rw [show 100 + 85 * a + 4 = 104 + 85 * a by omega, show 100 + 85 * b + 4 = 104 + 85 * b by omega] at e1
    rw [e1] at hl
    have q := q0 b k hb.1 hb.2 hk hl
    have e2 := hy (6 + 4 * k) (by omega) (by omega)
    rw [show 100 + 85 * a + (6 + 4 * k) = 106 + 85 * a + 4 * k by omega, show 100 + 85 * b + (6 + 4 * k) = 106 + 85 * b + 4 * k by omega] at e2
    have e3 := hy (7 + 4 * k) (by omega) (by omega)
    rw [show 100 + 85 * a + (7 + 4 * k) = 107 + 85 * a + 4 * k by omega, show 100 + 85 * b + (7 + 4 * k) = 107 + 85 * b + 4 * k by omega] at e3
    have e4 := hy 0 (by omega) (by omega)
    rw [show 100 + 85 * a + 0 = 100 + 85 * a by omega, show 100 + 85 * b + 0 = 100 + 85 * b by omega] at e4
    rw [e2, e3, e4]; exact q
  · rw [hx (104 + 85 * a) (by omega)] at hl
    have q := q0 a k h0 h1 hk hl
    rw [hx (106 + 85 * a + 4 * k) (by omega), hx (107 + 85 * a + 4 * k) (by omega), hx (100 + 85 * a) (by omega)]
    exact q
/-- no automaton has more rules than there is room for -/
theorem at_cnt {M : Mem} (hI : Inv true M) (s : Int) : ∀ a, 0 ≤ a → a ≤ 1 → M 164 (272 * s + 104 + 85 * a) ≤ 20 := by
  intro a h0 h1
  have f := at_a (272 * s + 104 + 85 * a) s a 4 (by omega) (by omega) (by decide)
  exact (Inv.g hI kd_164 rfl (272 * s + 104 + 85 * a) (a := 0) (b := 20) f.1 f.2).2
def YY (M : Mem) : Prop := ∀ s, 0 ≤ s → s ≤ 3 → RWs (M 164) s
abbrev R4 (M : Mem) : Prop := RWs (M 164) 4
def LO (N M : Mem) : Prop := ∀ j, j < 1088 → N 164 j = M 164 j
theorem LO.rf (M : Mem) : LO M M := fun _ _ => rfl
theorem LO.trans {M N P : Mem} (h : LO N M) (h2 : LO P N) : LO P M := fun j hj => (h2 j hj).trans (h j hj)
theorem LO.ne {M N P : Mem} {i : Int} (h : LO N M) (hx : ∀ j, ¬ j = i → P 164 j = N 164 j) (hi : 1088 ≤ i) : LO P M := fun j hj => (hx j (by omega)).trans (h j hj)
theorem LO.sta {M N P : Mem} {i v : Int} (h : LO N M) (hM : P = mu N 164 i v) (hi : 1088 ≤ i) : LO P M := h.ne (fun j hj => by rw [hM, mu_i hj]) hi
theorem LO.st {M N P : Mem} {c i v : Int} {k : Nat} (h : LO N M) (hM : P = mu N c i v) (hk : kd c = k) (hne : (65 == k) = false) : LO P M := fun j hj => by rw [hM, mu_k kd_164 hk hne]; exact h j hj
theorem LO.fr {L : List (Nat × Int)} {M N P : Mem} (h : LO N M) (hF : Fr L N P) (hL : L.all (fun p => !(p.1 == 65)) = true) : LO P M := fun j hj => by rw [hF.e kd_164 j (fin_no hL)]; exact h j hj
theorem YY.lo {M N : Mem} (h : YY M) (hI : Inv true M) (hl : LO N M) : YY N := fun s h0 h3 => (h s h0 h3).eq (fun j _ hj => hl j (by omega)) (at_cnt hI s)
theorem YY.fr {L : List (Nat × Int)} {M N : Mem} (h : YY M) (hF : Fr L M N) (hL : L.all (fun p => !(p.1 == 65)) = true) : YY N := by
  have e : N 164 = M 164 := funext (fun j => hF.e kd_164 j (fin_no hL))
  intro s h0 h3
  rw [e]; exact h s h0 h3
theorem YY.st {M N : Mem} {c i v : Int} {k : Nat} (h : YY M) (hM : N = mu M c i v) (hk : kd c = k) (hne : (65 == k) = false) : YY N := by
  have e : N 164 = M 164 := funext (fun j => by rw [hM, mu_k kd_164 hk hne])
  intro s h0 h3
  rw [e]; exact h s h0 h3
theorem YY.sta {M N : Mem} {i v : Int} (h : YY M) (hI : Inv true M) (hM : N = mu M 164 i v) (hi : 0 ≤ i ∧ i < 100 ∨ 1088 ≤ i ∨ (100 < i ∧ i < 104) ∨ (185 < i ∧ i < 189)) : YY N := fun s h0 h3 => (h s h0 h3).sets (i := i) (fun j hj => by rw [hM, mu_i hj]) (by omega) (at_cnt hI s)
theorem R4.fr {L : List (Nat × Int)} {M N : Mem} (h : R4 M) (hF : Fr L M N) (hL : L.all (fun p => !(p.1 == 65)) = true) : R4 N := by
  have e : N 164 = M 164 := funext (fun j => hF.e kd_164 j (fin_no hL))
  show RWs (N 164) 4
  rw [e]; exact h
theorem R4.st {M N : Mem} {c i v : Int} {k : Nat} (h : R4 M) (hM : N = mu M c i v) (hk : kd c = k) (hne : (65 == k) = false) : R4 N := by
  have e : N 164 = M 164 := funext (fun j => by rw [hM, mu_k kd_164 hk hne])
  show RWs (N 164) 4
  rw [e]; exact h
theorem R4.ne {M N : Mem} {i : Int} (h : R4 M) (hI : Inv true M) (hx : ∀ j, ¬ j = i → N 164 j = M 164 j) (hi : i < 1188 ∨ 1358 ≤ i ∨ (1188 < i ∧ i < 1192) ∨ (1273 < i ∧ i < 1277)) : R4 N := RWs.sets h hx (by omega) (at_cnt hI 4)
theorem R4.sta {M N : Mem} {i v : Int} (h : R4 M) (hI : Inv true M) (hM : N = mu M 164 i v) (hi : i < 1188 ∨ 1358 ≤ i ∨ (1188 < i ∧ i < 1192) ∨ (1273 < i ∧ i < 1277)) : R4 N := h.ne hI (fun j hj => by rw [hM, mu_i hj]) hi
/-- places that were laid as others are -/
def CPk (N P : Mem) (to fr k : Int) : Prop := (∀ j, 0 ≤ j → j < k → N 164 (to + j) = P 164 (fr + j)) ∧ ∀ j, (j < to ∨ to + k ≤ j) → N 164 j = P 164 j
theorem CPk.nil {P : Mem} (to fr : Int) : CPk P P to fr 0 := ⟨fun j h0 h1 => absurd h0 (by omega), fun _ _ => rfl⟩
theorem CPk.step {N P Q : Mem} {to fr k v i f : Int} (h : CPk N P to fr k) (h0 : 0 ≤ k) (hM : Q = mu N 164 i v) (hi : i = to + k) (hv : v = N 164 f) (hf : f = fr + k) (hd : fr + k < to ∨ to + k ≤ fr + k) {k' : Int} (hk' : k' = k + 1) : CPk Q P to fr k' := by
  subst hM hi hf hk'
  refine ⟨fun j hj hk => ?_, fun j hj => ?_⟩
  · by_cases e : j = k
    · subst e; rw [mu_s, hv]; exact h.2 _ hd
    · rw [mu_i (by omega)]; exact h.1 j hj (by omega)
  · rw [mu_i (by omega)]; exact h.2 j (by omega)
theorem CPk.at {N P : Mem} {to fr k k' : Int} (h : CPk N P to fr k) (e : k = k') : CPk N P to fr k' := e ▸ h
theorem CPk.fr {L : List (Nat × Int)} {M N P : Mem} {to fr k : Int} (h : CPk M P to fr k) (hF : Fr L M N) (hL : L.all (fun p => !(p.1 == 65)) = true) : CPk N P to fr k := ⟨fun j h0 h1 => by rw [hF.e kd_164 _ (fin_no hL)]; exact h.1 j h0 h1, fun j hj => by rw [hF.e kd_164 _ (fin_no hL)]; exact h.2 j hj⟩
theorem CPk.st {M N P : Mem} {to fr k c i v : Int} {kn : Nat} (h : CPk M P to fr k) (hM : N = mu M c i v) (hk : kd c = kn) (hne : (65 == kn) = false) : CPk N P to fr k := ⟨fun j h0 h1 => by rw [hM, mu_k kd_164 hk hne]; exact h.1 j h0 h1, fun j hj => by rw [hM, mu_k kd_164 hk hne]; exact h.2 j hj⟩
theorem YY.slot {M N : Mem} (h : YY M) (hI : Inv true M) {s t : Int} (hs : 0 ≤ s ∧ s ≤ 4) (ht : 0 ≤ t ∧ t ≤ 3) (hr : RWs (M 164) s) (hc : CPk N M (272 * t) (272 * s) 272) : YY N := by
  intro u h0 h3
  by_cases e : u = t
  · subst e; exact hr.slot (at_cnt hI s) (fun j hj hk => hc.1 j hj hk)
  · exact (h u h0 h3).eq (fun j h1 h2 => hc.2 j (by omega)) (at_cnt hI u)
theorem YY.slot4 {M N : Mem} (h : YY M) (hI : Inv true M) (hr : R4 M) (hc : CPk N M 0 1088 272) : YY N := YY.slot h hI (s := 4) (t := 0) (by omega) (by omega) hr hc
theorem YY.slot0 {M N : Mem} {t : Int} (h : YY M) (hI : Inv true M) (ht : 0 ≤ t ∧ t ≤ 3) (hc : CPk N M (272 * t) (272 * 0) 272) : YY N := YY.slot h hI (s := 0) (t := t) (by omega) ht (h 0 (by omega) (by omega)) hc
theorem YY.slotB {M N : Mem} {s : Int} (h : YY M) (hI : Inv true M) (hs : 0 ≤ s ∧ s ≤ 3) (hc : CPk N M (272 * 0) (272 * s) 272) : YY N := YY.slot h hI (s := s) (t := 0) (by omega) (by omega) (h s hs.1 hs.2) hc
theorem YY.drop {M N : Mem} (h : YY M) (hI : Inv true M) (b d m : Int) (hb : 0 ≤ b ∧ b ≤ 1) (hd : 0 ≤ d ∧ d ≤ m) (hm : m = M 164 (104 + 85 * b) - 1) (hx : ∀ j, (j < 105 + 85 * b + 4 * d ∨ 105 + 85 * b + 4 * m ≤ j) → ¬ j = 104 + 85 * b → N 164 j = M 164 j) (hy : ∀ j, 105 + 85 * b + 4 * d ≤ j → j < 105 + 85 * b + 4 * m → N 164 j = M 164 (j + 4)) (hn : N 164 (104 + 85 * b) = m) : YY N := by
  have hc := at_cnt hI 0
  simp only [Int.mul_zero, Int.zero_add] at hc
  have c1 := hc b hb.1 hb.2
  intro u h0 h3
  by_cases e : u = 0
  · subst e; exact (h 0 (by omega) (by omega)).drop b d m hb hd hm hc hx hy hn
  · exact (h u h0 h3).eq (fun j h1 h2 => hx j (by omega) (by omega)) (at_cnt hI u)
theorem YY.copy {M N : Mem} (h : YY M) (hI : Inv true M) (b c : Int) (hb : 0 ≤ b ∧ b ≤ 1) (hcc : 0 ≤ c ∧ c ≤ 1) (hcp : CPk N M (100 + 85 * c) (100 + 85 * b) 85) : YY N := by
  have hc := at_cnt hI 0
  simp only [Int.mul_zero, Int.zero_add] at hc
  intro u h0 h3
  by_cases e : u = 0
  · subst e; exact (h 0 (by omega) (by omega)).copy b c hb hcc hc (fun j hj => hcp.2 j (by omega)) hcp.1
  · exact (h u h0 h3).eq (fun j h1 h2 => hcp.2 j (by omega)) (at_cnt hI u)
theorem YY.rule {M N : Mem} (h : YY M) (hI : Inv true M) (b m : Int) (hb : 0 ≤ b ∧ b ≤ 1) (hm : m = M 164 (104 + 85 * b) ∧ 0 ≤ m ∧ m ≤ 19) (hx : ∀ j, (j < 105 + 85 * b + 4 * m ∨ 108 + 85 * b + 4 * m < j) → ¬ j = 104 + 85 * b → N 164 j = M 164 j) (hn : N 164 (104 + 85 * b) = m + 1) (h1 : N 164 (106 + 85 * b + 4 * m) < M 164 (100 + 85 * b)) (h2 : N 164 (107 + 85 * b + 4 * m) < M 164 (100 + 85 * b)) : YY N := by
  intro u h0 h3
  by_cases e : u = 0
  · subst e
    refine RWs.rule (h 0 (by omega) (by omega)) b m hb ⟨?_, hm.2⟩ (at_cnt hI 0) (fun j hj hk => ?_) ?_ ?_ ?_
    · simpa using hm.1
    · exact hx j (by omega) (by omega)
    · simpa using hn
    · simpa using h1
    · simpa using h2
  · exact (h u h0 h3).eq (fun j h1 h2 => hx j (by omega) (by omega)) (at_cnt hI u)
theorem R4.rule {M N : Mem} (h : R4 M) (hI : Inv true M) (b m : Int) (hb : 0 ≤ b ∧ b ≤ 1) (hm : m = M 164 (1192 + 85 * b) ∧ 0 ≤ m ∧ m ≤ 19) (hx : ∀ j, (j < 1193 + 85 * b + 4 * m ∨ 1196 + 85 * b + 4 * m < j) → ¬ j = 1192 + 85 * b → N 164 j = M 164 j) (hn : N 164 (1192 + 85 * b) = m + 1) (h1 : N 164 (1194 + 85 * b + 4 * m) < M 164 (1188 + 85 * b)) (h2 : N 164 (1195 + 85 * b + 4 * m) < M 164 (1188 + 85 * b)) : R4 N :=
  RWs.rule h b m hb ⟨hm.1, hm.2⟩ (at_cnt hI 4) (fun j hj hk => hx j (by omega) (by omega)) hn h1 h2
theorem R4.auto {M N : Mem} (h : R4 M) (hI : Inv true M) (b : Int) (hb : 0 ≤ b ∧ b ≤ 1) (hx : ∀ j, 1188 ≤ j → (j < 1188 + 85 * b ∨ 1192 + 85 * b < j) → N 164 j = M 164 j) (hn : N 164 (1192 + 85 * b) = 0) : R4 N :=
  RWs.auto h b hb (at_cnt hI 4) (fun j h0 hj => hx j (by omega) (by omega)) hn
theorem R4.none {M : Mem} (h0 : M 164 1192 = 0) (h1 : M 164 1277 = 0) : R4 M := RWs.none h0 h1
/-- a slot that was cleared up to a place -/
def PZ (N P : Mem) (k : Int) : Prop := (∀ j, 0 ≤ j → j < k → N 164 (1088 + j) = 0) ∧ LO N P
theorem PZ.nil (P : Mem) : PZ P P 0 := ⟨fun j h0 h1 => absurd h0 (by omega), LO.rf P⟩
theorem PZ.step {N P Q : Mem} {k i k' : Int} (h : PZ N P k) (h0 : 0 ≤ k) (hM : Q = mu N 164 i 0) (hi : i = 1088 + k) (hk' : k' = k + 1) : PZ Q P k' := by
  subst hi hk'
  refine ⟨fun j hj hk => ?_, h.2.sta hM (by omega)⟩
  subst hM
  by_cases e : j = k
  · subst e; rw [mu_s]
  · rw [mu_i (by omega)]; exact h.1 j hj (by omega)
theorem PZ.done {N P Q : Mem} {v : Int} (h : PZ N P 272) (hM : Q = mu N 164 1092 v) : LO Q P ∧ R4 Q := by
  refine ⟨h.2.sta hM (by omega), R4.none ?_ ?_⟩
  · rw [hM, mu_i (by omega)]; exact h.1 104 (by omega) (by omega)
  · rw [hM, mu_i (by omega)]; exact h.1 189 (by omega) (by omega)
def GR (M : Mem) (x : Int) : Prop := (x = 1 → R4 M) ∧ (¬ x = 1 → ¬ M 163 18 = 0)
theorem at_85 (i j a b k : Int) (ha : 0 ≤ a ∧ a ≤ 1) (hb : 0 ≤ b ∧ b ≤ 1) (hk : 0 ≤ k ∧ k < 85) (hi : i = 100 + 85 * a + k) (hj : j = 100 + 85 * b + k) : atlo i = atlo j ∧ athi i = athi j := by
  have e1 : atq i = i := by unfold atq; omega
  have e2 : atq j = j := by unfold atq; omega
  have p1 : (i - 100) % 85 = k := by rcases (by omega : a = 0 ∨ a = 1) with rfl | rfl <;> omega
  have p2 : (j - 100) % 85 = k := by rcases (by omega : b = 0 ∨ b = 1) with rfl | rfl <;> omega
  constructor
  · unfold atlo
    simp only [e1, e2, p1, p2]
    repeat' split
    all_goals omega
  · unfold athi
    simp only [e1, e2, p1, p2]
    repeat' split
    all_goals omega

