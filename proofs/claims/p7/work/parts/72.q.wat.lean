/-! the monitor begins -/
def zWA (q : Int → Int) (a1 r : Int) : Prop := ((0 ≤ a1 ∧ a1 < q 3) ∧ ((r = 1 ∧ ¬ zand (q (85 * a1 + 102)) (q (85 * a1 + 103)) = 0) ∨ (r = 0 ∧ zand (q (85 * a1 + 102)) (q (85 * a1 + 103)) = 0))) ∨ (¬ (0 ≤ a1 ∧ a1 < q 3) ∧ r = -1)
theorem zWA.u {q : Int → Int} {a1 r r' : Int} (h : zWA q a1 r) (h' : zWA q a1 r') : r = r' := by
  rcases h with ⟨a, b⟩ | ⟨a, b⟩ <;> rcases h' with ⟨a', b'⟩ | ⟨a', b'⟩
  · rcases b with b | b <;> rcases b' with b' | b'
    · exact b.1.trans b'.1.symm
    · exact absurd b'.2 b.2
    · exact absurd b.2 b'.2
    · exact b.1.trans b'.1.symm
  · exact absurd a a'
  · exact absurd a' a
  · exact b.trans b'.symm
