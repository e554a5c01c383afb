
theorem zQV.u {q : Int → Int} (h : zQV q) : 0 ≤ q 3 ∧ q 3 ≤ 2 ∧ 0 ≤ q 104 ∧ q 104 ≤ 20 ∧ 0 ≤ q 189 ∧ q 189 ≤ 20 := h
