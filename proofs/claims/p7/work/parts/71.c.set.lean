def zTD (q : Int → Int) (a1 r : Int) : Prop := ((0 ≤ a1 ∧ a1 ≤ 3) ∧ r = (q a1)) ∨ (¬ (0 ≤ a1 ∧ a1 ≤ 3) ∧ r = -1)
theorem zTD.u {q : Int → Int} {a1 r r' : Int} (h : zTD q a1 r) (h' : zTD q a1 r') : r = r' := by
  rcases h with ⟨a, b⟩ | ⟨a, b⟩ <;> rcases h' with ⟨c, d⟩ | ⟨c, d⟩
  · exact b.trans d.symm
  · exact absurd a c
  · exact absurd c a
  · exact b.trans d.symm

def zAU (q : Int → Int) (a1 a2 r : Int) : Prop := ((0 ≤ a1 ∧ a1 < (q 3) ∧ 0 ≤ a2 ∧ a2 ≤ 4) ∧ r = (q (85 * a1 + a2 + 100))) ∨ (¬ (0 ≤ a1 ∧ a1 < (q 3) ∧ 0 ≤ a2 ∧ a2 ≤ 4) ∧ r = -1)
theorem zAU.u {q : Int → Int} {a1 a2 r r' : Int} (h : zAU q a1 a2 r) (h' : zAU q a1 a2 r') : r = r' := by
  rcases h with ⟨a, b⟩ | ⟨a, b⟩ <;> rcases h' with ⟨c, d⟩ | ⟨c, d⟩
  · exact b.trans d.symm
  · exact absurd a c
  · exact absurd c a
  · exact b.trans d.symm

def zRL (q : Int → Int) (a1 a2 a3 r : Int) : Prop := ((0 ≤ a1 ∧ a1 < (q 3) ∧ 0 ≤ a2 ∧ a2 < (q (85 * a1 + 104)) ∧ 0 ≤ a3 ∧ a3 ≤ 3) ∧ r = (q (85 * a1 + 4 * a2 + a3 + 105))) ∨ (¬ (0 ≤ a1 ∧ a1 < (q 3) ∧ 0 ≤ a2 ∧ a2 < (q (85 * a1 + 104)) ∧ 0 ≤ a3 ∧ a3 ≤ 3) ∧ r = -1)
theorem zRL.u {q : Int → Int} {a1 a2 a3 r r' : Int} (h : zRL q a1 a2 a3 r) (h' : zRL q a1 a2 a3 r') : r = r' := by
  rcases h with ⟨a, b⟩ | ⟨a, b⟩ <;> rcases h' with ⟨c, d⟩ | ⟨c, d⟩
  · exact b.trans d.symm
  · exact absurd a c
  · exact absurd c a
  · exact b.trans d.symm
