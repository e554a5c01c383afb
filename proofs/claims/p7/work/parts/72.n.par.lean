/-! partners, by heights -/
def zH (w : Int → Int) (c p : Int) : Nat → Int
  | 0 => 0
  | n + 1 => zH w c p n + (if w (n : Int) < c then 1 else if w (n : Int) < p then -1 else 0)
def zh (w : Int → Int) (c p i : Int) : Int := zH w c p i.toNat
theorem zh_r {w : Int → Int} {c p i : Int} (h : 0 ≤ i) (hw : ¬ w i < c) (hv : w i < p) : zh w c p (i + 1) = zh w c p i - 1 := by
  unfold zh; rw [show (i + 1).toNat = i.toNat + 1 by omega, zH, show ((i.toNat : Nat) : Int) = i by omega, if_neg hw, if_pos hv]; omega
def zPD (w : Int → Int) (c p i j v : Int) : Prop := (¬ w j < c ∧ ¬ w j < p ∧ v = -1) ∨ (w j < c ∧ j < v ∧ v < i ∧ ¬ w v < c ∧ w v < p ∧ zh w c p v = zh w c p j + 1 ∧ ∀ l, j < l → l ≤ v → zh w c p j < zh w c p l) ∨ (¬ w j < c ∧ w j < p ∧ v = -1 ∧ ∀ l, 0 ≤ l → l ≤ j → zh w c p j ≤ zh w c p l) ∨ (¬ w j < c ∧ w j < p ∧ 0 ≤ v ∧ v < j ∧ w v < c ∧ zh w c p v + 1 = zh w c p j ∧ ∀ l, v < l → l ≤ j → zh w c p j ≤ zh w c p l)
def zPT (w : Int → Int) (c p n j v : Int) : Prop := (w j < c ∧ v = -1 ∧ ∀ l, j < l → l ≤ n → zh w c p j < zh w c p l) ∨ zPD w c p n j v
theorem zPT.u {w : Int → Int} {c p n j v v' : Int} (hj : 0 ≤ j) (h : zPT w c p n j v) (h' : zPT w c p n j v') : v = v' := by
  rcases h with ⟨a1, a2, a3⟩ | ⟨a1, a2, a3⟩ | ⟨a1, a2, a3, a4, a5, a6, a7⟩ | ⟨a1, a2, a3, a4⟩ | ⟨a1, a2, a3, a4, a5, a6, a7⟩ <;> rcases h' with ⟨b1, b2, b3⟩ | ⟨b1, b2, b3⟩ | ⟨b1, b2, b3, b4, b5, b6, b7⟩ | ⟨b1, b2, b3, b4⟩ | ⟨b1, b2, b3, b4, b5, b6, b7⟩
  · omega
  · exact absurd a1 b1
  · have := zh_r (w := w) (c := c) (p := p) (by omega : 0 ≤ v') b4 b5
    have := a3 (v' + 1) (by omega) (by omega)
    omega
  · exact absurd a1 b1
  · exact absurd a1 b1
  · exact absurd b1 a1
  · omega
  · exact absurd b1 a1
  · exact absurd b2 a2
  · exact absurd b2 a2
  · have := zh_r (w := w) (c := c) (p := p) (by omega : 0 ≤ v) a4 a5
    have := b3 (v + 1) (by omega) (by omega)
    omega
  · exact absurd a1 b1
  · rcases (by omega : v = v' ∨ v < v' ∨ v' < v) with e | e | e
    · exact e
    · have := zh_r (w := w) (c := c) (p := p) (by omega : 0 ≤ v) a4 a5
      have := b7 (v + 1) (by omega) (by omega)
      omega
    · have := zh_r (w := w) (c := c) (p := p) (by omega : 0 ≤ v') b4 b5
      have := a7 (v' + 1) (by omega) (by omega)
      omega
  · exact absurd a1 b1
  · exact absurd a1 b1
  · exact absurd b1 a1
  · exact absurd a2 b2
  · exact absurd b1 a1
  · omega
  · have := a4 v' (by omega) (by omega)
    omega
  · exact absurd b1 a1
  · exact absurd a2 b2
  · exact absurd b1 a1
  · have := b4 v (by omega) (by omega)
    omega
  · rcases (by omega : v = v' ∨ v < v' ∨ v' < v) with e | e | e
    · exact e
    · have := a7 v' (by omega) (by omega)
      omega
    · have := b7 v (by omega) (by omega)
      omega
theorem zPT.in {w : Int → Int} {c p n k : Int} (hw : ¬ w k < c) (hv : ¬ w k < p) : zPT w c p n k (-1) := Or.inr (Or.inl ⟨hw, hv, rfl⟩)
def zPE (f : Int → Int) (a1 n k pl l c p r : Int) : Prop := ((0 ≤ k ∧ k < n ∧ zWO f a1 n pl l) ∧ zPT (fun j => f (60 * a1 + j)) c p n k r) ∨ (¬ (0 ≤ k ∧ k < n ∧ zWO f a1 n pl l) ∧ r = -1)
theorem zPE.u {f : Int → Int} {a1 n k pl l c p r r' : Int} (h : zPE f a1 n k pl l c p r) (h' : zPE f a1 n k pl l c p r') : r = r' := by
  rcases h with ⟨a, b⟩ | ⟨a, b⟩ <;> rcases h' with ⟨a', b'⟩ | ⟨a', b'⟩
  · exact zPT.u a.1 b b'
  · exact absurd a a'
  · exact absurd a' a
  · exact b.trans b'.symm
