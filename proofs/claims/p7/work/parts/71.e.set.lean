/-! what is done to a checker: the reference's slot -/
theorem zRB.to {f g q q' : Int → Int} {b : Int} (h : zRB f q b) (e : ∀ i, b ≤ i → i < b + 85 → q' i = q i ∧ g i = f i) (hr : q (b + 4) ≤ 20) : zRB g q' b := by
  obtain ⟨a0, a1, a2, a3, a4, a6⟩ := h
  have c : ∀ i, b ≤ i → i < b + 85 → f i = q i → g i = q' i := fun i h1 h2 h3 => by rw [(e i h1 h2).1, (e i h1 h2).2]; exact h3
  refine ⟨c _ (by omega) (by omega) a0, c _ (by omega) (by omega) a1, c _ (by omega) (by omega) a2, c _ (by omega) (by omega) a3, c _ (by omega) (by omega) a4, fun k h0 h1 => ?_⟩
  rw [(e (b + 4) (by omega) (by omega)).1] at h1
  obtain ⟨c1, c2, c3, c4⟩ := a6 k h0 h1
  exact ⟨c _ (by omega) (by omega) c1, c _ (by omega) (by omega) c2, c _ (by omega) (by omega) c3, c _ (by omega) (by omega) c4⟩
theorem zRU.set {f g q q' : Int → Int} {a b : Int} (h : zRU f q) (ha : 0 ≤ a ∧ a ≤ 1 ∧ a < q 3) (hb : b = 85 * a + 100) (hn : zRB g q' b) (h3 : q' 3 = q 3) (ho : ∀ i, 100 ≤ i → i < 270 → (i < b ∨ b + 85 ≤ i) → q' i = q i) (hg : ∀ i, 100 ≤ i → i < 270 → (i < b ∨ b + 85 ≤ i) → g i = f i) (hV : zQV q) : zRU g q' := by
  obtain ⟨v1, v2, v3, v4, v5, v6⟩ := hV
  subst hb
  unfold zRU
  rw [h3]
  rcases (by omega : a = 0 ∨ a = 1) with e0 | e0 <;> subst e0
  · exact ⟨fun _ => hn, fun c => zRB.to (h.2 c) (fun i a1 a2 => ⟨ho _ (by omega) (by omega) (by omega), hg _ (by omega) (by omega) (by omega)⟩) (by exact v6)⟩
  · exact ⟨fun c => zRB.to (h.1 c) (fun i a1 a2 => ⟨ho _ (by omega) (by omega) (by omega), hg _ (by omega) (by omega) (by omega)⟩) (by exact v4), fun _ => hn⟩
theorem zRN.q {f g q q' : Int → Int} (h : zRN f q) (e : ∀ i, 0 ≤ i → i < 4 → g i = f i) (e' : ∀ i, 0 ≤ i → i < 4 → q' i = q i) : zRN g q' := by
  obtain ⟨a0, a1, a2, a3, a4⟩ := h
  unfold zRN
  rw [e' 0 (by decide) (by decide), e' 1 (by decide) (by decide), e' 2 (by decide) (by decide), e' 3 (by decide) (by decide)]
  exact ⟨(e 0 (by decide) (by decide)).trans a0, (e 1 (by decide) (by decide)).trans a1, (e 2 (by decide) (by decide)).trans a2, (e 3 (by decide) (by decide)).trans a3, a4⟩
def zSY (c p g a2 a3 : Int) : Prop := (a2 < c ∧ 0 ≤ a3 ∧ a3 < g) ∨ (c ≤ a2 ∧ a2 < p ∧ (a3 = -1 ∨ (0 ≤ a3 ∧ a3 < g))) ∨ (c ≤ a2 ∧ p ≤ a2 ∧ a3 = -1)
def zSYo (c p g a2 a3 r : Int) : Prop := (r = 1 ∧ zSY c p g a2 a3) ∨ (r = 0 ∧ ¬ zSY c p g a2 a3)
theorem zSYo.n {c p g a2 a3 r : Int} (h : zSYo c p g a2 a3 r) (hr : r = 0) : ¬ zSY c p g a2 a3 := by
  rcases h with h | h
  · exact absurd h.1 (by omega)
  · exact h.2
/-- what stands in the slots apart from the automata of the first one -/
def zRO (N M : Mem) : Prop := ∀ i, (i < 4 ∨ 272 ≤ i) → N 164 i = M 164 i
theorem zRO.rf (M : Mem) : zRO M M := fun _ _ => rfl
