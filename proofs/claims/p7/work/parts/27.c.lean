/-! words that are read: letters, and what lies below -/
def WT (M : Mem) (t n : Int) : Prop := ∀ i, 0 ≤ i → i < n → 0 ≤ M 168 (60 * t + i) ∧ M 168 (60 * t + i) ≤ M 164 0 + M 164 1 + M 164 2 - 1
theorem WT.fr {L : List (Nat × Int)} {M N : Mem} {t n : Int} (h : WT M t n) (hF : Fr L M N) (h1 : L.all (fun p => !(p.1 == 69)) = true) (h2 : L.all (fun p => !(p.1 == 65)) = true) : WT N t n := by
  have q1 : ∀ i, N 168 i = M 168 i := fun i => hF.e kd_168 i (fin_no h1)
  have q2 : ∀ i, N 164 i = M 164 i := fun i => hF.e kd_164 i (fin_no h2)
  intro i h0 h3
  rw [q1, q2, q2, q2]; exact h i h0 h3
def WB (M : Mem) (n : Int) : Prop := M 174 0 = -1 ∧ ∀ j, 0 ≤ j → j < n → M 175 j ≤ 5 ∧ M 174 (j + 1) ≤ j
theorem WB.fr {L : List (Nat × Int)} {M N : Mem} {n : Int} (h : WB M n) (hF : Fr L M N) (h1 : L.all (fun p => !(p.1 == 75)) = true) (h2 : L.all (fun p => !(p.1 == 76)) = true) : WB N n := by
  have q1 : ∀ i, N 174 i = M 174 i := fun i => hF.e kd_174 i (fin_no h1)
  have q2 : ∀ i, N 175 i = M 175 i := fun i => hF.e kd_175 i (fin_no h2)
  refine ⟨by rw [q1]; exact h.1, fun j h0 h3 => ?_⟩
  rw [q1, q2]; exact h.2 j h0 h3
def TR (M : Mem) (lev L : Int) : Prop := ∀ j, 0 ≤ j → j ≤ lev → M 193 j < L
theorem TR.to {M N : Mem} {a b L : Int} (h : TR M a L) (h1 : ∀ j, j < a → N 193 j = M 193 j) (h2 : N 193 a < L) (h3 : b = a - 1 ∨ b = a ∨ (b = a + 1 ∧ N 193 b < L)) : TR N b L := by
  intro j h0 hj
  by_cases e : j < a
  · rw [h1 j e]; exact h j h0 (by omega)
  · by_cases e2 : j = a
    · rw [e2]; exact h2
    · rcases h3 with h3 | h3 | h3
      · omega
      · omega
      · rw [show j = b by omega]; exact h3.2
