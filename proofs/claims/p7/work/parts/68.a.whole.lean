/-! settings by rows of numbers: the class -/
def zSN (M : Mem) (s : Int) (q : Int → Int) : Prop := M s 0 = q 0 ∧ M s 1 = q 0 + q 1 ∧ M s 2 = q 0 + q 1 + q 2 ∧ M s 3 = q 3 ∧ 0 ≤ q 0 ∧ q 0 ≤ 2 ∧ 0 ≤ q 1 ∧ q 1 ≤ 2 ∧ 0 ≤ q 2 ∧ q 2 ≤ 2 ∧ 0 ≤ q 3 ∧ q 3 ≤ 2
def zSU (M : Mem) (s : Int) (q : Int → Int) : Prop := (0 < q 3 → AT M (M s 4) q 100) ∧ (1 < q 3 → AT M (M s 5) q 185)
theorem zSN.u {M : Mem} {s : Int} {q : Int → Int} (h : zSN M s q) : M s 0 = q 0 ∧ M s 1 = q 0 + q 1 ∧ M s 2 = q 0 + q 1 + q 2 ∧ M s 3 = q 3 ∧ 0 ≤ q 0 ∧ q 0 ≤ 2 ∧ 0 ≤ q 1 ∧ q 1 ≤ 2 ∧ 0 ≤ q 2 ∧ q 2 ≤ 2 ∧ 0 ≤ q 3 ∧ q 3 ≤ 2 := h
/-- an automaton's numbers, by its place in the row -/
theorem AT.n {M : Mem} {x b y d : Int} {q : Int → Int} (h : AT M x q b) (hd : 0 ≤ d ∧ d ≤ 4) (hy : y = b + d) : M x d = q y := by
  have e : d = 0 ∨ d = 1 ∨ d = 2 ∨ d = 3 ∨ d = 4 := by omega
  have g := h.num
  subst hy
  rcases e with e | e | e | e | e <;> subst e
  · rw [Int.add_zero]; exact g.1
  · exact g.2.1
  · exact g.2.2.1
  · exact g.2.2.2.1
  · exact g.2.2.2.2.1
theorem AT.r {M : Mem} {x b k y0 y1 y2 y3 : Int} {q : Int → Int} (h : AT M x q b) (h0 : 0 ≤ k) (h1 : k < q (b + 4)) (e0 : y0 = b + 5 + 4 * k) (e1 : y1 = b + 6 + 4 * k) (e2 : y2 = b + 7 + 4 * k) (e3 : y3 = b + 8 + 4 * k) : M (M x 6) k = q y0 ∧ M (M x 7) k = q y1 ∧ M (M x 8) k = q y2 ∧ M (M x 9) k = q y3 := by
  subst e0 e1 e2 e3; exact h.rul k h0 h1
/-! the reference's slots -/
def zRB (f : Int → Int) (q : Int → Int) (b : Int) : Prop := f b = q b ∧ f (b + 1) = q (b + 1) ∧ f (b + 2) = q (b + 2) ∧ f (b + 3) = q (b + 3) ∧ f (b + 4) = q (b + 4) ∧ ∀ k, 0 ≤ k → k < q (b + 4) → f (b + 5 + 4 * k) = q (b + 5 + 4 * k) ∧ f (b + 6 + 4 * k) = q (b + 6 + 4 * k) ∧ f (b + 7 + 4 * k) = q (b + 7 + 4 * k) ∧ f (b + 8 + 4 * k) = q (b + 8 + 4 * k)
def zRN (f : Int → Int) (q : Int → Int) : Prop := f 0 = q 0 ∧ f 1 = q 1 ∧ f 2 = q 2 ∧ f 3 = q 3 ∧ 0 ≤ q 0 ∧ q 0 ≤ 2 ∧ 0 ≤ q 1 ∧ q 1 ≤ 2 ∧ 0 ≤ q 2 ∧ q 2 ≤ 2 ∧ 0 ≤ q 3 ∧ q 3 ≤ 2
def zRU (f : Int → Int) (q : Int → Int) : Prop := (0 < q 3 → zRB f q 100) ∧ (1 < q 3 → zRB f q 185)
theorem zRN.u {f q : Int → Int} (h : zRN f q) : f 0 = q 0 ∧ f 1 = q 1 ∧ f 2 = q 2 ∧ f 3 = q 3 ∧ 0 ≤ q 0 ∧ q 0 ≤ 2 ∧ 0 ≤ q 1 ∧ q 1 ≤ 2 ∧ 0 ≤ q 2 ∧ q 2 ≤ 2 ∧ 0 ≤ q 3 ∧ q 3 ≤ 2 := h
theorem zRN.n {f q : Int → Int} {a : Int} (h : zRN f q) (ha : 0 ≤ a ∧ a ≤ 3) : f a = q a := by
  have e : a = 0 ∨ a = 1 ∨ a = 2 ∨ a = 3 := by omega
  rcases e with e | e | e | e <;> subst e
  · exact h.1
  · exact h.2.1
  · exact h.2.2.1
  · exact h.2.2.2.1
theorem zRU.b {f q : Int → Int} {a b : Int} (h : zRU f q) (ha : 0 ≤ a ∧ a ≤ 1 ∧ a < q 3) (hb : b = 85 * a + 100) : zRB f q b := by
  subst hb
  rcases (by omega : a = 0 ∨ a = 1) with e | e <;> subst e
  · exact h.1 (by omega)
  · exact h.2 (by omega)
theorem zRB.n {f q : Int → Int} {b y d : Int} (h : zRB f q b) (hd : 0 ≤ d ∧ d ≤ 4) (hy : y = b + d) : f y = q y := by
  have e : d = 0 ∨ d = 1 ∨ d = 2 ∨ d = 3 ∨ d = 4 := by omega
  subst hy
  rcases e with e | e | e | e | e <;> subst e
  · rw [Int.add_zero]; exact h.1
  · exact h.2.1
  · exact h.2.2.1
  · exact h.2.2.2.1
  · exact h.2.2.2.2.1
theorem zRB.r {f q : Int → Int} {b k d y : Int} (h : zRB f q b) (h0 : 0 ≤ k) (h1 : k < q (b + 4)) (hd : 0 ≤ d ∧ d ≤ 3) (hy : y = b + 5 + 4 * k + d) : f y = q y := by
  have g := h.2.2.2.2.2 k h0 h1
  have e : d = 0 ∨ d = 1 ∨ d = 2 ∨ d = 3 := by omega
  subst hy
  rcases e with e | e | e | e <;> subst e
  · rw [Int.add_zero]; exact g.1
  · rw [show b + 5 + 4 * k + 1 = b + 6 + 4 * k by omega]; exact g.2.1
  · rw [show b + 5 + 4 * k + 2 = b + 7 + 4 * k by omega]; exact g.2.2.1
  · rw [show b + 5 + 4 * k + 3 = b + 8 + 4 * k by omega]; exact g.2.2.2
/-- what a slot tells of the text that was read -/
theorem zRB.of {M : Mem} {f q : Int → Int} {b : Int} (h : BT M q b) (e : ∀ i, b ≤ i → i < b + 85 → f i = M 164 (i + 1088)) (hr : q (b + 4) ≤ 20) : zRB f q b := by
  obtain ⟨a0, a1, a2, a3, a4, a6⟩ := h
  refine ⟨by rw [e _ (by omega) (by omega)]; exact a0, by rw [e _ (by omega) (by omega), show b + 1 + 1088 = b + 1089 by omega]; exact a1, by rw [e _ (by omega) (by omega), show b + 2 + 1088 = b + 1090 by omega]; exact a2, by rw [e _ (by omega) (by omega), show b + 3 + 1088 = b + 1091 by omega]; exact a3, by rw [e _ (by omega) (by omega), show b + 4 + 1088 = b + 1092 by omega]; exact a4, fun k h0 h1 => ?_⟩
  obtain ⟨c1, c2, c3, c4⟩ := a6 k h0 h1
  exact ⟨by rw [e _ (by omega) (by omega), show b + 5 + 4 * k + 1088 = b + 4 * k + 1093 by omega]; exact c1, by rw [e _ (by omega) (by omega), show b + 6 + 4 * k + 1088 = b + 4 * k + 1094 by omega]; exact c2, by rw [e _ (by omega) (by omega), show b + 7 + 4 * k + 1088 = b + 4 * k + 1095 by omega]; exact c3, by rw [e _ (by omega) (by omega), show b + 8 + 4 * k + 1088 = b + 4 * k + 1096 by omega]; exact c4⟩
theorem zRB.cg {f g q : Int → Int} {b : Int} (h : zRB f q b) (e : ∀ i, b ≤ i → i < b + 85 → g i = f i) (hr : q (b + 4) ≤ 20) : zRB g q b := by
  obtain ⟨a0, a1, a2, a3, a4, a6⟩ := h
  refine ⟨by rw [e _ (by omega) (by omega)]; exact a0, by rw [e _ (by omega) (by omega)]; exact a1, by rw [e _ (by omega) (by omega)]; exact a2, by rw [e _ (by omega) (by omega)]; exact a3, by rw [e _ (by omega) (by omega)]; exact a4, fun k h0 h1 => ?_⟩
  obtain ⟨c1, c2, c3, c4⟩ := a6 k h0 h1
  exact ⟨by rw [e _ (by omega) (by omega)]; exact c1, by rw [e _ (by omega) (by omega)]; exact c2, by rw [e _ (by omega) (by omega)]; exact c3, by rw [e _ (by omega) (by omega)]; exact c4⟩
theorem zRN.cg {f g q : Int → Int} (h : zRN f q) (e : ∀ i, 0 ≤ i → i < 4 → g i = f i) : zRN g q := by
  obtain ⟨a0, a1, a2, a3, a4⟩ := h
  exact ⟨(e 0 (by decide) (by decide)).trans a0, (e 1 (by decide) (by decide)).trans a1, (e 2 (by decide) (by decide)).trans a2, (e 3 (by decide) (by decide)).trans a3, a4⟩
theorem zRU.cg {f g q : Int → Int} (h : zRU f q) (e : ∀ i, 100 ≤ i → i < 270 → g i = f i) (hq : zQV q) : zRU g q := by
  obtain ⟨h1, h2, h3, h4, h5, h6⟩ := hq
  exact ⟨fun a => (h.1 a).cg (fun i x y => e i (by omega) (by omega)) (by exact h4), fun a => (h.2 a).cg (fun i x y => e i (by omega) (by omega)) (by exact h6)⟩
