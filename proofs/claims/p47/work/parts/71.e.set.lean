/-! what is done to a checker: the reference's slot -/
theorem zRB.to {f g q q' : Int → Int} {b : Int} (h : zRB f q b) (e : ∀ i, b ≤ i → i < b + 85 → q' i = q i ∧ g i = f i) (hr : q (b + 4) ≤ 20) : zRB g q' b := by
  obtain ⟨a0, a1, a2, a3, a4, a6⟩ := h
  have c : ∀ i, b ≤ i → i < b + 85 → f i = q i → g i = q' i := fun i h1 h2 h3 => by rw [(e i h1 h2).1, (e i h1 h2).2]; exact h3
  refine ⟨c _ (by omega) (by omega) a0, c _ (by omega) (by omega) a1, c _ (by omega) (by omega) a2, c _ (by omega) (by omega) a3, c _ (by omega) (by omega) a4, fun k h0 h1 => ?_⟩
  rw [(e (b + 4) (by omega) (by omega)).1] at h1
  obtain ⟨c1, c2, c3, c4⟩ := a6 k h0 h1
  exact ⟨c _ (by omega) (by omega) c1, c _ (by omega) (by omega) c2, c _ (by omega) (by omega) c3, c _ (by omega) (by omega) c4⟩
theorem zRU.set {f g q q' : Int → Int} {a b : Int} (h : zRU f q) (ha : 0 ≤ a ∧ a ≤ 1 ∧ a < q 3) (hb : b = 85 * a + 100) (hn : zRB g q' b) (h3 : q' 3 = q 3) (ho : ∀ i, 100 ≤ i → i < 270 → (i < b ∨ b + 85 ≤ i) → q' i = q i) (hg : ∀ i, 100 ≤ i → i < 270 → (i < b ∨ b + 85 ≤ i) → g i = f i) (hV : zQV q) : zRU g q' := by
  obtain ⟨v1, v2, v3, v4, v5, v6⟩ := hV
  subst hb
  unfold zRU
  rw [h3]
  rcases (by omega : a = 0 ∨ a = 1) with e0 | e0 <;> subst e0
  · exact ⟨fun _ => hn, fun c => zRB.to (h.2 c) (fun i a1 a2 => ⟨ho _ (by omega) (by omega) (by omega), hg _ (by omega) (by omega) (by omega)⟩) (by exact v6)⟩
  · exact ⟨fun c => zRB.to (h.1 c) (fun i a1 a2 => ⟨ho _ (by omega) (by omega) (by omega), hg _ (by omega) (by omega) (by omega)⟩) (by exact v4), fun _ => hn⟩
theorem zRN.q {f g q q' : Int → Int} (h : zRN f q) (e : ∀ i, 0 ≤ i → i < 4 → g i = f i) (e' : ∀ i, 0 ≤ i → i < 4 → q' i = q i) : zRN g q' := by
  obtain ⟨a0, a1, a2, a3, a4⟩ := h
  unfold zRN
  rw [e' 0 (by decide) (by decide), e' 1 (by decide) (by decide), e' 2 (by decide) (by decide), e' 3 (by decide) (by decide)]
  exact ⟨(e 0 (by decide) (by decide)).trans a0, (e 1 (by decide) (by decide)).trans a1, (e 2 (by decide) (by decide)).trans a2, (e 3 (by decide) (by decide)).trans a3, a4⟩
theorem zRB.app {f g q : Int → Int} {b l p r s : Int} (h : zRB f q b) (hn : 0 ≤ q (b + 4)) (h4 : g (b + 4) = q (b + 4) + 1) (h5 : g (b + 5 + 4 * q (b + 4)) = l) (h6 : g (b + 6 + 4 * q (b + 4)) = p) (h7 : g (b + 7 + 4 * q (b + 4)) = r) (h8 : g (b + 8 + 4 * q (b + 4)) = s) (o : ∀ i, ¬ i = b + 4 → (i < b + 5 + 4 * q (b + 4) ∨ b + 8 + 4 * q (b + 4) < i) → g i = f i) : zRB g (uprul q b l p r s) b := by
  obtain ⟨a0, a1, a2, a3, a4, a6⟩ := h
  have u4 : uprul q b l p r s (b + 4) = q (b + 4) + 1 := by unfold uprul; rw [if_pos rfl]
  have uo : ∀ i, ¬ i = b + 4 → (i < b + 5 + 4 * q (b + 4) ∨ b + 8 + 4 * q (b + 4) < i) → uprul q b l p r s i = q i := fun i c1 c2 => by unfold uprul; rw [if_neg c1, if_neg (by omega), if_neg (by omega), if_neg (by omega), if_neg (by omega)]
  have u5 : uprul q b l p r s (b + 5 + 4 * q (b + 4)) = l := by unfold uprul; rw [if_neg (by omega), if_pos rfl]
  have u6 : uprul q b l p r s (b + 6 + 4 * q (b + 4)) = p := by unfold uprul; rw [if_neg (by omega), if_neg (by omega), if_pos rfl]
  have u7 : uprul q b l p r s (b + 7 + 4 * q (b + 4)) = r := by unfold uprul; rw [if_neg (by omega), if_neg (by omega), if_neg (by omega), if_pos rfl]
  have u8 : uprul q b l p r s (b + 8 + 4 * q (b + 4)) = s := by unfold uprul; rw [if_neg (by omega), if_neg (by omega), if_neg (by omega), if_neg (by omega), if_pos rfl]
  refine ⟨by rw [uo _ (by omega) (by omega), o _ (by omega) (by omega)]; exact a0, by rw [uo _ (by omega) (by omega), o _ (by omega) (by omega)]; exact a1, by rw [uo _ (by omega) (by omega), o _ (by omega) (by omega)]; exact a2, by rw [uo _ (by omega) (by omega), o _ (by omega) (by omega)]; exact a3, by rw [u4]; exact h4, fun k h0 h1 => ?_⟩
  rw [u4] at h1
  by_cases e : k = q (b + 4)
  · subst e
    rw [u5, u6, u7, u8]
    exact ⟨h5, h6, h7, h8⟩
  · obtain ⟨c1, c2, c3, c4⟩ := a6 k h0 (by omega)
    rw [uo _ (by omega) (by omega), uo _ (by omega) (by omega), uo _ (by omega) (by omega), uo _ (by omega) (by omega), o _ (by omega) (by omega), o _ (by omega) (by omega), o _ (by omega) (by omega), o _ (by omega) (by omega)]
    exact ⟨c1, c2, c3, c4⟩
theorem zRB.put {f g q : Int → Int} {b i v : Int} (h : zRB f q b) (hi : i = 2 ∨ i = 3) (hv : g (b + i) = v) (o : ∀ k, ¬ k = b + i → g k = f k) : zRB g (upk q (b + i) v) b := by
  obtain ⟨a0, a1, a2, a3, a4, a6⟩ := h
  have r : ∀ k, 0 ≤ k → k < upk q (b + i) v (b + 4) → g (b + 5 + 4 * k) = upk q (b + i) v (b + 5 + 4 * k) ∧ g (b + 6 + 4 * k) = upk q (b + i) v (b + 6 + 4 * k) ∧ g (b + 7 + 4 * k) = upk q (b + i) v (b + 7 + 4 * k) ∧ g (b + 8 + 4 * k) = upk q (b + i) v (b + 8 + 4 * k) := fun k h0 h1 => by
    rw [upk_o (by omega)] at h1
    rw [upk_o (by omega), upk_o (by omega), upk_o (by omega), upk_o (by omega), o _ (by omega), o _ (by omega), o _ (by omega), o _ (by omega)]
    exact a6 k h0 h1
  rcases hi with e | e <;> subst e
  · exact ⟨by rw [upk_o (by omega), o _ (by omega)]; exact a0, by rw [upk_o (by omega), o _ (by omega)]; exact a1, by rw [upk_s]; exact hv, by rw [upk_o (by omega), o _ (by omega)]; exact a3, by rw [upk_o (by omega), o _ (by omega)]; exact a4, r⟩
  · exact ⟨by rw [upk_o (by omega), o _ (by omega)]; exact a0, by rw [upk_o (by omega), o _ (by omega)]; exact a1, by rw [upk_o (by omega), o _ (by omega)]; exact a2, by rw [upk_s]; exact hv, by rw [upk_o (by omega), o _ (by omega)]; exact a4, r⟩
theorem zRB.drop {f g q : Int → Int} {b k : Int} (h : zRB f q b) (hk : 0 ≤ k ∧ k < q (b + 4)) (h4 : g (b + 4) = q (b + 4) - 1) (s : ∀ i, b + 5 + 4 * k ≤ i → i < b + 1 + 4 * q (b + 4) → g i = f (i + 4)) (o : ∀ i, ¬ i = b + 4 → i < b + 5 + 4 * k → g i = f i) : zRB g (zdrop q b k) b := by
  obtain ⟨a0, a1, a2, a3, a4, a6⟩ := h
  have e : ∀ i, i < b + 4 → zdrop q b k i = q i := fun i hi => by unfold zdrop; rw [if_neg (by omega), if_neg (by omega)]
  have e4 : zdrop q b k (b + 4) = q (b + 4) - 1 := by unfold zdrop; rw [if_pos rfl]
  refine ⟨by rw [e _ (by omega), o _ (by omega) (by omega)]; exact a0, by rw [e _ (by omega), o _ (by omega) (by omega)]; exact a1, by rw [e _ (by omega), o _ (by omega) (by omega)]; exact a2, by rw [e _ (by omega), o _ (by omega) (by omega)]; exact a3, by rw [e4]; exact h4, fun i hi hl => ?_⟩
  rw [e4] at hl
  by_cases hx : k ≤ i
  · have c := a6 (i + 1) (by omega) (by omega)
    have d : ∀ d : Int, 5 ≤ d → d ≤ 8 → (g (b + d + 4 * i) = zdrop q b k (b + d + 4 * i) ↔ f (b + d + 4 * (i + 1)) = q (b + d + 4 * (i + 1))) := fun d h1 h2 => by
      rw [s _ (by omega) (by omega)]
      unfold zdrop
      rw [if_neg (by omega), if_pos (by omega), show b + d + 4 * i + 4 = b + d + 4 * (i + 1) by omega]
    exact ⟨(d 5 (by decide) (by decide)).mpr c.1, (d 6 (by decide) (by decide)).mpr c.2.1, (d 7 (by decide) (by decide)).mpr c.2.2.1, (d 8 (by decide) (by decide)).mpr c.2.2.2⟩
  · have c := a6 i hi (by omega)
    have d : ∀ d : Int, 5 ≤ d → d ≤ 8 → (g (b + d + 4 * i) = zdrop q b k (b + d + 4 * i) ↔ f (b + d + 4 * i) = q (b + d + 4 * i)) := fun d h1 h2 => by
      rw [o _ (by omega) (by omega)]
      unfold zdrop
      rw [if_neg (by omega), if_neg (by omega)]
    exact ⟨(d 5 (by decide) (by decide)).mpr c.1, (d 6 (by decide) (by decide)).mpr c.2.1, (d 7 (by decide) (by decide)).mpr c.2.2.1, (d 8 (by decide) (by decide)).mpr c.2.2.2⟩
/-- a row moved down by one place of four, so far -/
def zS4 (N M : Mem) (k i : Int) : Prop := ∀ j, N 164 j = if k ≤ j ∧ j < i then M 164 (j + 4) else M 164 j
theorem zS4.nil {N M : Mem} {k : Int} (h : ∀ j, N 164 j = M 164 j) : zS4 N M k k := fun j => by rw [if_neg (by omega)]; exact h j
theorem zS4.step {N N' M : Mem} {k i v i' : Int} (h : zS4 N M k i) (hN : N' = mu N 164 i v) (hv : v = N 164 (i + 4)) (hk : k ≤ i) (hi : i' = i + 1) : zS4 N' M k i' := fun j => by
  subst hi
  by_cases e : j = i
  · subst e; rw [hN, mu_s, hv, if_pos (by omega), h (j + 4), if_neg (by omega)]
  · rw [hN, mu_i e, h j]
    by_cases z : k ≤ j ∧ j < i
    · rw [if_pos z, if_pos (by omega)]
    · rw [if_neg z, if_neg (by omega)]

def zSY (c p g a2 a3 : Int) : Prop := (a2 < c ∧ 0 ≤ a3 ∧ a3 < g) ∨ (c ≤ a2 ∧ a2 < p ∧ (a3 = -1 ∨ (0 ≤ a3 ∧ a3 < g))) ∨ (c ≤ a2 ∧ p ≤ a2 ∧ a3 = -1)
def zSYo (c p g a2 a3 r : Int) : Prop := (r = 1 ∧ zSY c p g a2 a3) ∨ (r = 0 ∧ ¬ zSY c p g a2 a3)
theorem zSYo.y {c p g a2 a3 r : Int} (h : zSYo c p g a2 a3 r) (hr : ¬ r = 0) : zSY c p g a2 a3 := by
  rcases h with h | h
  · exact h.2
  · exact absurd h.1 hr
theorem zSYo.n {c p g a2 a3 r : Int} (h : zSYo c p g a2 a3 r) (hr : r = 0) : ¬ zSY c p g a2 a3 := by
  rcases h with h | h
  · exact absurd h.1 (by omega)
  · exact h.2
/-- what stands in the slots apart from the automata of the first one -/
def zRO (N M : Mem) : Prop := ∀ i, (i < 100 ∨ 272 ≤ i) → N 164 i = M 164 i
theorem zRO.rf (M : Mem) : zRO M M := fun _ _ => rfl
theorem zRB.rr {f q : Int → Int} {b k y0 y1 y2 y3 : Int} (h : zRB f q b) (h0 : 0 ≤ k) (h1 : k < q (b + 4)) (e0 : y0 = b + 5 + 4 * k) (e1 : y1 = b + 6 + 4 * k) (e2 : y2 = b + 7 + 4 * k) (e3 : y3 = b + 8 + 4 * k) : f y0 = q (b + 5 + 4 * k) ∧ f y1 = q (b + 6 + 4 * k) ∧ f y2 = q (b + 7 + 4 * k) ∧ f y3 = q (b + 8 + 4 * k) := by
  subst e0 e1 e2 e3; exact h.2.2.2.2.2 k h0 h1
theorem zRB.copy {f g q : Int → Int} {a o b b' : Int} (h : zRB f q b) (hi : ∀ i, 85 * o + 100 ≤ i → i < 85 * o + 185 → g i = f (i - 85 * o + 85 * a)) (hr : q b' ≤ 20) (hb : b = 85 * a + 100 := by omega) (hb' : b' = b + 4 := by omega) : zRB g (zcopy q a o) (85 * o + 100) := by
  subst hb' hb
  obtain ⟨a0, a1, a2, a3, a4, a6⟩ := h
  have z : ∀ i, 85 * o + 100 ≤ i → i < 85 * o + 185 → zcopy q a o i = q (i - 85 * o + 85 * a) := fun i h0 h1 => by unfold zcopy; rw [if_pos ⟨h0, h1⟩]
  have c : ∀ d, 0 ≤ d → d < 85 → f (85 * a + 100 + d) = q (85 * a + 100 + d) → g (85 * o + 100 + d) = zcopy q a o (85 * o + 100 + d) := fun d h0 h1 h2 => by
    rw [hi _ (by omega) (by omega), z _ (by omega) (by omega), show 85 * o + 100 + d - 85 * o + 85 * a = 85 * a + 100 + d by omega]; exact h2
  have e4 : zcopy q a o (85 * o + 100 + 4) = q (85 * a + 100 + 4) := by rw [z _ (by omega) (by omega), show 85 * o + 100 + 4 - 85 * o + 85 * a = 85 * a + 100 + 4 by omega]
  have c0 := c 0 (by decide) (by decide) (by rw [Int.add_zero]; exact a0)
  rw [Int.add_zero] at c0
  refine ⟨c0, c 1 (by decide) (by decide) a1, c 2 (by decide) (by decide) a2, c 3 (by decide) (by decide) a3, c 4 (by decide) (by decide) a4, fun k h0 h1 => ?_⟩
  rw [e4] at h1
  obtain ⟨c1, c2, c3, c4⟩ := a6 k h0 h1
  have d : ∀ d : Int, 5 ≤ d → d ≤ 8 → f (85 * a + 100 + d + 4 * k) = q (85 * a + 100 + d + 4 * k) → g (85 * o + 100 + d + 4 * k) = zcopy q a o (85 * o + 100 + d + 4 * k) := fun d h2 h3 h4 => by
    have w := c (d + 4 * k) (by omega) (by omega) (by rw [← Int.add_assoc]; exact h4)
    rw [← Int.add_assoc] at w; exact w
  exact ⟨d 5 (by decide) (by decide) c1, d 6 (by decide) (by decide) c2, d 7 (by decide) (by decide) c3, d 8 (by decide) (by decide) c4⟩
