/-! when fractions are told -/
def zRNS (f q : Int → Int) (a1 a2 n pl l r : Int) : Prop := ((0 ≤ a1 ∧ a1 < q 3 ∧ zWO f a2 n pl l) ∧ r = 1) ∨ (¬ (0 ≤ a1 ∧ a1 < q 3 ∧ zWO f a2 n pl l) ∧ r = 0)
theorem zRNS.u {f q : Int → Int} {a1 a2 n pl l r r' : Int} (h : zRNS f q a1 a2 n pl l r) (h' : zRNS f q a1 a2 n pl l r') : r = r' := by
  rcases h with ⟨a, b⟩ | ⟨a, b⟩ <;> rcases h' with ⟨a', b'⟩ | ⟨a', b'⟩
  · exact b.trans b'.symm
  · exact absurd a a'
  · exact absurd a' a
  · exact b.trans b'.symm
def zSHR (q : Int → Int) (a1 n l r : Int) : Prop := (0 ≤ a1 ∧ a1 < q 3 ∧ 0 ≤ n ∧ n ≤ 6 ∧ (1 ≤ l ∨ n = 0) ∧ r = 1) ∨ ((a1 < 0 ∨ q 3 ≤ a1 ∨ n < 0 ∨ 6 < n ∨ (l ≤ 0 ∧ ¬ n = 0)) ∧ r = 0)
theorem zSHR.u {q : Int → Int} {a1 n l r r' : Int} (h : zSHR q a1 n l r) (h' : zSHR q a1 n l r') : r = r' := by
  unfold zSHR at h h'; omega
def zCHN (q : Int → Int) (a1 n many seed l r : Int) : Prop := (0 ≤ a1 ∧ a1 < q 3 ∧ 0 ≤ n ∧ n ≤ 20 ∧ 1 ≤ many ∧ many ≤ 50 ∧ 0 ≤ seed ∧ seed ≤ 9999 ∧ (1 ≤ l ∨ n = 0) ∧ r = 1) ∨ ((a1 < 0 ∨ q 3 ≤ a1 ∨ n < 0 ∨ 20 < n ∨ many < 1 ∨ 50 < many ∨ seed < 0 ∨ 9999 < seed ∨ (l ≤ 0 ∧ ¬ n = 0)) ∧ r = 0)
theorem zCHN.u {q : Int → Int} {a1 n many seed l r r' : Int} (h : zCHN q a1 n many seed l r) (h' : zCHN q a1 n many seed l r') : r = r' := by
  unfold zCHN at h h'; omega
/-- a number so many times itself -/
def zpo (l : Int) : Nat → Int
  | 0 => 1
  | n + 1 => zpo l n * l
def zPW (l i w : Int) : Prop := 0 ≤ i ∧ w = zpo l i.toNat
theorem zPW.nil {l : Int} : zPW l 0 1 := ⟨by decide, rfl⟩
theorem zPW.step {l i i' w w' : Int} (h : zPW l i w) (e : i' = i + 1) (hw : w' = w * l) : zPW l i' w' := by
  subst e
  refine ⟨by have := h.1; omega, ?_⟩
  rw [show (i + 1).toNat = i.toNat + 1 by have := h.1; omega, zpo, ← h.2, hw]
theorem zpo_all : ∀ n : Nat, n < 6 → ∀ l : Nat, l < 7 → 0 ≤ zpo l n ∧ zpo l n ≤ 7776 := by decide +kernel
theorem zpo_nul : ∀ n : Nat, n < 7 → ∀ l : Nat, l < 7 → (zpo l n = 0 ↔ l = 0 ∧ 0 < n) := by decide +kernel
theorem zPW.rng {l i w : Int} (h : zPW l i w) (hl : 0 ≤ l ∧ l ≤ 6) (hi : i ≤ 5) : 0 ≤ w ∧ w ≤ 7776 := by
  have a := zpo_all i.toNat (by omega) l.toNat (by omega)
  rw [show ((l.toNat : Nat) : Int) = l by omega, ← h.2] at a
  exact a
theorem zPW.end {l i n w : Int} (h : zPW l i w) (hl : 0 ≤ l ∧ l ≤ 6) (e : i = n) (hi : n ≤ 6) : (w = 0 → l ≤ 0 ∧ ¬ n = 0) ∧ (¬ w = 0 → 1 ≤ l ∨ n = 0) := by
  subst e
  have h0 := h.1
  have a := zpo_nul i.toNat (by omega) l.toNat (by omega)
  rw [show ((l.toNat : Nat) : Int) = l by omega, ← h.2] at a
  refine ⟨fun z => ?_, fun z => ?_⟩
  · have := a.mp z; omega
  · by_cases y : l = 0 ∧ 0 < i
    · exact absurd (a.mpr (by omega)) z
    · omega
