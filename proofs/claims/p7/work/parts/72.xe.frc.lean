/-! when fractions are told -/
def zRNS (f q : Int → Int) (a1 a2 n pl l r : Int) : Prop := ((0 ≤ a1 ∧ a1 < q 3 ∧ zWO f a2 n pl l) ∧ r = 1) ∨ (¬ (0 ≤ a1 ∧ a1 < q 3 ∧ zWO f a2 n pl l) ∧ r = 0)
theorem zRNS.u {f q : Int → Int} {a1 a2 n pl l r r' : Int} (h : zRNS f q a1 a2 n pl l r) (h' : zRNS f q a1 a2 n pl l r') : r = r' := by
  rcases h with ⟨a, b⟩ | ⟨a, b⟩ <;> rcases h' with ⟨a', b'⟩ | ⟨a', b'⟩
  · exact b.trans b'.symm
  · exact absurd a a'
  · exact absurd a' a
  · exact b.trans b'.symm
def zSHR (q : Int → Int) (a1 n l r : Int) : Prop := (0 ≤ a1 ∧ a1 < q 3 ∧ 0 ≤ n ∧ n ≤ 6 ∧ (1 ≤ l ∨ n = 0) ∧ r = 1) ∨ ((a1 < 0 ∨ q 3 ≤ a1 ∨ n < 0 ∨ 6 < n ∨ (l ≤ 0 ∧ ¬ n = 0)) ∧ r = 0)
theorem zSHR.u {q : Int → Int} {a1 n l r r' : Int} (h : zSHR q a1 n l r) (h' : zSHR q a1 n l r') : r = r' := by
  unfold zSHR at h h'; omega
def zCHN (q : Int → Int) (a1 n many seed l r : Int) : Prop := (0 ≤ a1 ∧ a1 < q 3 ∧ 0 ≤ n ∧ n ≤ 20 ∧ 1 ≤ many ∧ many ≤ 50 ∧ 0 ≤ seed ∧ seed ≤ 9999 ∧ (1 ≤ l ∨ n = 0) ∧ r = 1) ∨ ((a1 < 0 ∨ q 3 ≤ a1 ∨ n < 0 ∨ 20 < n ∨ many < 1 ∨ 50 < many ∨ seed < 0 ∨ 9999 < seed ∨ (l ≤ 0 ∧ ¬ n = 0)) ∧ r = 0)
theorem zCHN.u {q : Int → Int} {a1 n many seed l r r' : Int} (h : zCHN q a1 n many seed l r) (h' : zCHN q a1 n many seed l r') : r = r' := by
  unfold zCHN at h h'; omega
