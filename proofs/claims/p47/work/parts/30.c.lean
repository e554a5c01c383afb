/-! how few letters -/
theorem odm_n1 {t : Int → Int} {L lev : Int} (h : ∀ j, 0 ≤ j → j ≤ lev → t j < L) (h0 : -1 ≤ lev) : lev + 1 ≤ odm t L lev := by
  have q : ∀ j w, 0 ≤ j → 0 ≤ w → 0 ≤ odt t L lev j w := by
    intro j w hj hw
    by_cases hl : j ≤ lev
    · rw [odt_in hl]; exact Int.mul_nonneg (by have := h j hj hl; omega) hw
    · rw [odt_out hl]; exact Int.le_refl 0
  have a0 := q 0 32768 (by decide) (by decide)
  have a1 := q 1 4096 (by decide) (by decide)
  have a2 := q 2 512 (by decide) (by decide)
  have a3 := q 3 64 (by decide) (by decide)
  have a4 := q 4 8 (by decide) (by decide)
  have a5 := q 5 1 (by decide) (by decide)
  unfold odm; omega
