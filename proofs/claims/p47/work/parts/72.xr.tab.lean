/-! when something is told of a table -/
def zSR (b n k r : Int) : Prop := (r = 0 ∧ b = 1 ∧ n ≤ 40 ∧ 0 ≤ k ∧ k < n) ∨ (¬ r = 0 ∧ ¬ (b = 1 ∧ n ≤ 40 ∧ 0 ≤ k ∧ k < n))
theorem zSR.y {b n k r : Int} (h : zSR b n k r) (hr : r = 0) : b = 1 ∧ n ≤ 40 ∧ 0 ≤ k ∧ k < n := by
  rcases h with h | h
  · exact h.2
  · exact absurd hr h.1
theorem zSR.n {b n k r : Int} (h : zSR b n k r) (hr : ¬ r = 0) : ¬ (b = 1 ∧ n ≤ 40 ∧ 0 ≤ k ∧ k < n) := by
  rcases h with h | h
  · exact absurd h.1 hr
  · exact h.2
def zTRf (b n r : Int) : Prop := (r = 0 ∧ b = 1 ∧ n ≤ 40) ∨ (¬ r = 0 ∧ ¬ (b = 1 ∧ n ≤ 40))
theorem zTRf.y {b n r : Int} (h : zTRf b n r) (hr : r = 0) : b = 1 ∧ n ≤ 40 := by
  rcases h with h | h
  · exact h.2
  · exact absurd hr h.1
theorem zTRf.n {b n r : Int} (h : zTRf b n r) (hr : ¬ r = 0) : ¬ (b = 1 ∧ n ≤ 40) := by
  rcases h with h | h
  · exact absurd h.1 hr
  · exact h.2
