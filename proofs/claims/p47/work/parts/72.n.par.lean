/-! partners, by heights -/
def zH (w : Int → Int) (c p : Int) : Nat → Int
  | 0 => 0
  | n + 1 => zH w c p n + (if w (n : Int) < c then 1 else if w (n : Int) < p then -1 else 0)
def zh (w : Int → Int) (c p i : Int) : Int := zH w c p i.toNat
theorem zh_c {w : Int → Int} {c p i : Int} (h : 0 ≤ i) (hw : w i < c) : zh w c p (i + 1) = zh w c p i + 1 := by
  unfold zh; rw [show (i + 1).toNat = i.toNat + 1 by omega, zH, show ((i.toNat : Nat) : Int) = i by omega, if_pos hw]
theorem zh_r {w : Int → Int} {c p i : Int} (h : 0 ≤ i) (hw : ¬ w i < c) (hv : w i < p) : zh w c p (i + 1) = zh w c p i - 1 := by
  unfold zh; rw [show (i + 1).toNat = i.toNat + 1 by omega, zH, show ((i.toNat : Nat) : Int) = i by omega, if_neg hw, if_pos hv]; omega
theorem zh_i {w : Int → Int} {c p i : Int} (h : 0 ≤ i) (hw : ¬ w i < c) (hv : ¬ w i < p) : zh w c p (i + 1) = zh w c p i := by
  unfold zh; rw [show (i + 1).toNat = i.toNat + 1 by omega, zH, show ((i.toNat : Nat) : Int) = i by omega, if_neg hw, if_neg hv]; omega
def zPD (w : Int → Int) (c p i j v : Int) : Prop := (¬ w j < c ∧ ¬ w j < p ∧ v = -1) ∨ (w j < c ∧ j < v ∧ v < i ∧ ¬ w v < c ∧ w v < p ∧ zh w c p v = zh w c p j + 1 ∧ ∀ l, j < l → l ≤ v → zh w c p j < zh w c p l) ∨ (¬ w j < c ∧ w j < p ∧ v = -1 ∧ ∀ l, 0 ≤ l → l ≤ j → zh w c p j ≤ zh w c p l) ∨ (¬ w j < c ∧ w j < p ∧ 0 ≤ v ∧ v < j ∧ w v < c ∧ zh w c p v + 1 = zh w c p j ∧ ∀ l, v < l → l ≤ j → zh w c p j ≤ zh w c p l)
theorem zPD.mono {w : Int → Int} {c p i i' j v : Int} (h : zPD w c p i j v) (e : i ≤ i') : zPD w c p i' j v := by
  rcases h with h | ⟨a, b, d, f⟩ | h | h
  · exact Or.inl h
  · exact Or.inr (Or.inl ⟨a, b, by omega, f⟩)
  · exact Or.inr (Or.inr (Or.inl h))
  · exact Or.inr (Or.inr (Or.inr h))
def zPT (w : Int → Int) (c p n j v : Int) : Prop := (w j < c ∧ v = -1 ∧ ∀ l, j < l → l ≤ n → zh w c p j < zh w c p l) ∨ zPD w c p n j v
theorem zPT.u {w : Int → Int} {c p n j v v' : Int} (hj : 0 ≤ j) (h : zPT w c p n j v) (h' : zPT w c p n j v') : v = v' := by
  rcases h with ⟨a1, a2, a3⟩ | ⟨a1, a2, a3⟩ | ⟨a1, a2, a3, a4, a5, a6, a7⟩ | ⟨a1, a2, a3, a4⟩ | ⟨a1, a2, a3, a4, a5, a6, a7⟩ <;> rcases h' with ⟨b1, b2, b3⟩ | ⟨b1, b2, b3⟩ | ⟨b1, b2, b3, b4, b5, b6, b7⟩ | ⟨b1, b2, b3, b4⟩ | ⟨b1, b2, b3, b4, b5, b6, b7⟩
  · omega
  · exact absurd a1 b1
  · have := zh_r (w := w) (c := c) (p := p) (by omega : 0 ≤ v') b4 b5
    have := a3 (v' + 1) (by omega) (by omega)
    omega
  · exact absurd a1 b1
  · exact absurd a1 b1
  · exact absurd b1 a1
  · omega
  · exact absurd b1 a1
  · exact absurd b2 a2
  · exact absurd b2 a2
  · have := zh_r (w := w) (c := c) (p := p) (by omega : 0 ≤ v) a4 a5
    have := b3 (v + 1) (by omega) (by omega)
    omega
  · exact absurd a1 b1
  · rcases (by omega : v = v' ∨ v < v' ∨ v' < v) with e | e | e
    · exact e
    · have := zh_r (w := w) (c := c) (p := p) (by omega : 0 ≤ v) a4 a5
      have := b7 (v + 1) (by omega) (by omega)
      omega
    · have := zh_r (w := w) (c := c) (p := p) (by omega : 0 ≤ v') b4 b5
      have := a7 (v' + 1) (by omega) (by omega)
      omega
  · exact absurd a1 b1
  · exact absurd a1 b1
  · exact absurd b1 a1
  · exact absurd a2 b2
  · exact absurd b1 a1
  · omega
  · have := a4 v' (by omega) (by omega)
    omega
  · exact absurd b1 a1
  · exact absurd a2 b2
  · exact absurd b1 a1
  · have := b4 v (by omega) (by omega)
    omega
  · rcases (by omega : v = v' ∨ v < v' ∨ v' < v) with e | e | e
    · exact e
    · have := a7 v' (by omega) (by omega)
      omega
    · have := b7 v (by omega) (by omega)
      omega
/-! a scan from one letter on -/
def zSF (w : Int → Int) (c p k n i o : Int) : Prop := 0 ≤ k ∧ k < i ∧ i ≤ n ∧ o = zh w c p i - zh w c p k - 1 ∧ 0 ≤ o ∧ w k < c ∧ ∀ l, k < l → l ≤ i → zh w c p k < zh w c p l
theorem zSF.nil {w : Int → Int} {c p k n i : Int} (h0 : 0 ≤ k ∧ k < n) (hk : w k < c) (e : i = k + 1) : zSF w c p k n i 0 := by
  have z := zh_c (p := p) h0.1 hk
  subst e
  exact ⟨h0.1, by omega, by omega, by omega, by omega, hk, fun l a b => by rw [show l = k + 1 by omega]; omega⟩
theorem zSF.s {w : Int → Int} {c p k n i i' o o' : Int} (h : zSF w c p k n i o) (hn : i < n) (e : i' = i + 1) (hz : zh w c p (i + 1) = zh w c p i + (o' - o)) (ho : 0 ≤ o') : zSF w c p k n i' o' := by
  obtain ⟨a1, a2, a3, a4, a5, a6, a7⟩ := h
  subst e
  refine ⟨a1, by omega, by omega, by omega, ho, a6, fun l b1 b2 => ?_⟩
  by_cases q : l = i + 1
  · rw [q]; omega
  · exact a7 l b1 (by omega)
theorem zSF.hit {w : Int → Int} {c p k n i o : Int} (h : zSF w c p k n i o) (hn : i < n) (ho : o = 0) (hw : ¬ w i < c) (hv : w i < p) : zPT w c p n k i := by
  obtain ⟨a1, a2, a3, a4, a5, a6, a7⟩ := h
  exact Or.inr (Or.inr (Or.inl ⟨a6, a2, hn, hw, hv, by omega, a7⟩))
theorem zSF.end {w : Int → Int} {c p k n i o : Int} (h : zSF w c p k n i o) (hn : n ≤ i) : zPT w c p n k (-1) := by
  obtain ⟨a1, a2, a3, a4, a5, a6, a7⟩ := h
  exact Or.inl ⟨a6, rfl, fun l b1 b2 => a7 l b1 (by omega)⟩
def zSB (w : Int → Int) (c p k i o : Int) : Prop := -1 ≤ i ∧ i < k ∧ o = zh w c p (i + 1) - zh w c p k ∧ 0 ≤ o ∧ ¬ w k < c ∧ w k < p ∧ ∀ l, i < l → l ≤ k → zh w c p k ≤ zh w c p l
theorem zSB.nil {w : Int → Int} {c p k i : Int} (h0 : 0 ≤ k) (hk : ¬ w k < c) (hk' : w k < p) (e : i = k - 1) : zSB w c p k i 0 := by
  subst e
  exact ⟨by omega, by omega, by rw [show k - 1 + 1 = k by omega]; omega, by omega, hk, hk', fun l a b => by rw [show l = k by omega]; omega⟩
theorem zSB.s {w : Int → Int} {c p k i i' o o' : Int} (h : zSB w c p k i o) (hi : 0 ≤ i) (e : i' = i - 1) (hz : zh w c p (i + 1) = zh w c p i - (o' - o)) (ho : 0 ≤ o') : zSB w c p k i' o' := by
  obtain ⟨a1, a2, a3, a4, a5, a6, a7⟩ := h
  subst e
  refine ⟨by omega, by omega, by rw [show i - 1 + 1 = i by omega]; omega, ho, a5, a6, fun l b1 b2 => ?_⟩
  by_cases q : l = i
  · rw [q]; omega
  · exact a7 l (by omega) b2
theorem zSB.hit {w : Int → Int} {c p k n i o : Int} (h : zSB w c p k i o) (hi : 0 ≤ i) (ho : o = 0) (hw : w i < c) : zPT w c p n k i := by
  obtain ⟨a1, a2, a3, a4, a5, a6, a7⟩ := h
  have z := zh_c (p := p) hi hw
  exact Or.inr (Or.inr (Or.inr (Or.inr ⟨a5, a6, hi, a2, hw, by omega, a7⟩)))
theorem zSB.end {w : Int → Int} {c p k n i o : Int} (h : zSB w c p k i o) (hi : i < 0) : zPT w c p n k (-1) := by
  obtain ⟨a1, a2, a3, a4, a5, a6, a7⟩ := h
  exact Or.inr (Or.inr (Or.inr (Or.inl ⟨a5, a6, rfl, fun l b1 b2 => a7 l (by omega) b2⟩)))
theorem zPT.in {w : Int → Int} {c p n k : Int} (hw : ¬ w k < c) (hv : ¬ w k < p) : zPT w c p n k (-1) := Or.inr (Or.inl ⟨hw, hv, rfl⟩)
/-! a stack of those that are open -/
def zLP (W B : Int → Int) (w : Int → Int) (c p i P : Int) : Prop := 0 ≤ P ∧ (∀ t, 0 ≤ t → t < P → 0 ≤ W t ∧ W t < i ∧ w (W t) < c ∧ zh w c p (W t) = zh w c p i - P + t ∧ B (W t) = -1 ∧ ∀ l, W t < l → l ≤ i → zh w c p (W t) < zh w c p l) ∧ (∀ l, 0 ≤ l → l ≤ i → zh w c p i - P ≤ zh w c p l) ∧ ∀ j, 0 ≤ j → j < i → (∃ t, 0 ≤ t ∧ t < P ∧ W t = j) ∨ zPD w c p i j (B j)
theorem zLP.nil {W B w : Int → Int} {c p : Int} : zLP W B w c p 0 0 := ⟨by decide, fun t a b => absurd b (by omega), fun l a b => by rw [show l = 0 by omega]; omega, fun j a b => absurd b (by omega)⟩
theorem zLP.call {W B W' B' w : Int → Int} {c p i i' P P' : Int} (h : zLP W B w c p i P) (hi : 0 ≤ i) (hw : w i < c) (hW : ∀ t, W' t = if t = P then i else W t) (hB : ∀ j, B' j = if j = i then -1 else B j) (e : i' = i + 1) (eP : P' = P + 1) : zLP W' B' w c p i' P' := by
  obtain ⟨hP, h1, h2, h3⟩ := h
  have z := zh_c (p := p) hi hw
  subst e eP
  refine ⟨by omega, fun t t0 t1 => ?_, fun l l0 l1 => ?_, fun j j0 j1 => ?_⟩
  · rw [hW t]
    by_cases q : t = P
    · rw [if_pos q]
      refine ⟨hi, by omega, hw, by omega, by rw [hB i, if_pos rfl], fun l a b => ?_⟩
      rw [show l = i + 1 by omega]; omega
    · rw [if_neg q]
      obtain ⟨a1, a2, a3, a4, a5, a6⟩ := h1 t t0 (by omega)
      refine ⟨a1, by omega, a3, by omega, by rw [hB, if_neg (by omega)]; exact a5, fun l a b => ?_⟩
      by_cases y : l = i + 1
      · have := a6 i a2 (by omega)
        rw [y]; omega
      · exact a6 l a (by omega)
  · by_cases y : l = i + 1
    · rw [y]; omega
    · have := h2 l l0 (by omega)
      omega
  · by_cases y : j = i
    · exact Or.inl ⟨P, hP, by omega, by rw [hW, if_pos rfl]; exact y.symm⟩
    · rcases h3 j j0 (by omega) with ⟨t, a, b, d⟩ | a
      · exact Or.inl ⟨t, a, by omega, by rw [hW, if_neg (by omega)]; exact d⟩
      · exact Or.inr (by rw [hB j, if_neg y]; exact a.mono (by omega))
theorem zLP.ret {W B B' w : Int → Int} {c p i i' P P' x : Int} (h : zLP W B w c p i P) (hi : 0 ≤ i) (hw : ¬ w i < c) (hv : w i < p) (h0 : 0 < P) (hx : x = W (P - 1)) (hB : ∀ j, B' j = if j = x then i else if j = i then x else B j) (e : i' = i + 1) (eP : P' = P - 1) : zLP W B' w c p i' P' := by
  obtain ⟨hP, h1, h2, h3⟩ := h
  have z := zh_r (p := p) hi hw hv
  obtain ⟨x1, x2, x3, x4, x5, x6⟩ := h1 (P - 1) (by omega) (by omega)
  rw [← hx] at x1 x2 x3 x4 x5 x6
  subst e eP
  refine ⟨by omega, fun t t0 t1 => ?_, fun l l0 l1 => ?_, fun j j0 j1 => ?_⟩
  · obtain ⟨a1, a2, a3, a4, a5, a6⟩ := h1 t t0 (by omega)
    have ne : ¬ W t = x := fun q => by rw [q] at a4; omega
    refine ⟨a1, by omega, a3, by omega, by rw [hB, if_neg ne, if_neg (by omega)]; exact a5, fun l a b => ?_⟩
    by_cases y : l = i + 1
    · rw [y]; omega
    · exact a6 l a (by omega)
  · by_cases y : l = i + 1
    · rw [y]; omega
    · have := h2 l l0 (by omega)
      omega
  · by_cases y : j = i
    · refine Or.inr ?_
      rw [hB j, if_neg (by omega), if_pos y, y]
      exact Or.inr (Or.inr (Or.inr ⟨hw, hv, x1, x2, x3, by omega, fun l a b => by have := x6 l a b; omega⟩))
    · by_cases y2 : j = x
      · refine Or.inr ?_
        rw [hB j, if_pos y2, y2]
        exact Or.inr (Or.inl ⟨x3, x2, by omega, hw, hv, by omega, x6⟩)
      · rcases h3 j j0 (by omega) with ⟨t, a, b, d⟩ | a
        · refine Or.inl ⟨t, a, ?_, d⟩
          have : ¬ t = P - 1 := fun q => by rw [q, ← hx] at d; exact y2 d.symm
          omega
        · exact Or.inr (by rw [hB j, if_neg y2, if_neg y]; exact a.mono (by omega))
theorem zLP.one {W B B' w : Int → Int} {c p i i' P : Int} (h : zLP W B w c p i P) (hi : 0 ≤ i) (hw : ¬ w i < c) (hv : w i < p ∧ P = 0 ∨ ¬ w i < p) (hB : ∀ j, B' j = if j = i then -1 else B j) (e : i' = i + 1) : zLP W B' w c p i' P := by
  obtain ⟨hP, h1, h2, h3⟩ := h
  have z : (zh w c p (i + 1) = zh w c p i ∨ (P = 0 ∧ zh w c p (i + 1) = zh w c p i - 1)) := by
    rcases hv with hv | hv
    · exact Or.inr ⟨hv.2, zh_r hi hw hv.1⟩
    · exact Or.inl (zh_i hi hw hv)
  subst e
  refine ⟨hP, fun t t0 t1 => ?_, fun l l0 l1 => ?_, fun j j0 j1 => ?_⟩
  · obtain ⟨a1, a2, a3, a4, a5, a6⟩ := h1 t t0 t1
    refine ⟨a1, by omega, a3, by omega, by rw [hB, if_neg (by omega)]; exact a5, fun l a b => ?_⟩
    by_cases y : l = i + 1
    · have := a6 i a2 (by omega)
      rw [y]; omega
    · exact a6 l a (by omega)
  · by_cases y : l = i + 1
    · rw [y]; omega
    · have := h2 l l0 (by omega)
      omega
  · by_cases y : j = i
    · refine Or.inr ?_
      rw [hB j, if_pos y, y]
      rcases hv with hv | hv
      · exact Or.inr (Or.inr (Or.inl ⟨hw, hv.1, rfl, fun l a b => by have := h2 l a b; omega⟩))
      · exact Or.inl ⟨hw, hv, rfl⟩
    · rcases h3 j j0 (by omega) with ⟨t, a, b, d⟩ | a
      · exact Or.inl ⟨t, a, b, d⟩
      · exact Or.inr (by rw [hB j, if_neg y]; exact a.mono (by omega))
theorem zLP.fin {W B w : Int → Int} {c p n P : Int} (h : zLP W B w c p n P) : ∀ j, 0 ≤ j → j < n → zPT w c p n j (B j) := fun j j0 j1 => by
  obtain ⟨hP, h1, h2, h3⟩ := h
  rcases h3 j j0 j1 with ⟨t, a, b, d⟩ | a
  · obtain ⟨a1, a2, a3, a4, a5, a6⟩ := h1 t a b
    rw [d] at a3 a5 a6
    exact Or.inl ⟨a3, a5, a6⟩
  · exact Or.inr a
theorem zif3 {a b : Prop} [Decidable a] [Decidable b] {x y z u : Int} : (if a then x else if b then y else if b then z else u) = (if a then x else if b then y else u) := by
  by_cases h1 : a
  · rw [if_pos h1, if_pos h1]
  · rw [if_neg h1, if_neg h1]
    by_cases h2 : b
    · rw [if_pos h2, if_pos h2]
    · rw [if_neg h2, if_neg h2, if_neg h2]
def zPE (f : Int → Int) (a1 n k pl l c p r : Int) : Prop := ((0 ≤ k ∧ k < n ∧ zWO f a1 n pl l) ∧ zPT (fun j => f (60 * a1 + j)) c p n k r) ∨ (¬ (0 ≤ k ∧ k < n ∧ zWO f a1 n pl l) ∧ r = -1)
theorem zPE.u {f : Int → Int} {a1 n k pl l c p r r' : Int} (h : zPE f a1 n k pl l c p r) (h' : zPE f a1 n k pl l c p r') : r = r' := by
  rcases h with ⟨a, b⟩ | ⟨a, b⟩ <;> rcases h' with ⟨a', b'⟩ | ⟨a', b'⟩
  · exact zPT.u a.1 b b'
  · exact absurd a a'
  · exact absurd a' a
  · exact b.trans b'.symm
theorem zPT.cv {w : Int → Int} {c p n j v v' : Int} (h : zPT w c p n j v) (e : v' = v) : zPT w c p n j v' := by subst e; exact h
