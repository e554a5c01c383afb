theorem at_q (i j : Int) (h : (i - j) % 272 = 0) : atlo i = atlo j ∧ athi i = athi j := by
  have e : atq i = atq j := by unfold atq; omega
  exact ⟨by unfold atlo; rw [e], by unfold athi; rw [e]⟩
theorem at_r_all : ∀ a : Nat, a < 2 → ∀ k : Nat, k < 20 → ∀ j : Nat, j < 4 → atlo (105 + 85 * (a : Int) + 4 * (k : Int) + (j : Int)) = (if (j : Int) = 3 then -1 else 0) ∧ athi (105 + 85 * (a : Int) + 4 * (k : Int) + (j : Int)) = (if (j : Int) = 0 then 5 else 2) := by decide +kernel
theorem at_r (i s a k j : Int) (h : i = 272 * s + 105 + 85 * a + 4 * k + j) (ha : 0 ≤ a ∧ a ≤ 1) (hk : 0 ≤ k ∧ k ≤ 19) (hj : 0 ≤ j ∧ j ≤ 3) : atlo i = (if j = 3 then -1 else 0) ∧ athi i = (if j = 0 then 5 else 2) := by
  have z := at_r_all a.toNat (by omega) k.toNat (by omega) j.toNat (by omega)
  rw [show ((a.toNat : Nat) : Int) = a by omega, show ((k.toNat : Nat) : Int) = k by omega, show ((j.toNat : Nat) : Int) = j by omega] at z
  have w := at_q i (105 + 85 * a + 4 * k + j) (by omega)
  rw [w.1, w.2]
  exact z
theorem at_a (i s a w : Int) (h : i = 272 * s + 100 + 85 * a + w) (ha : 0 ≤ a ∧ a ≤ 1) (hw : 0 ≤ w ∧ w ≤ 4) : atlo i = 0 ∧ athi i = (if w < 2 then 3 else if w < 4 then 7 else 20) := by
  have e : atq i = 100 + 85 * a + w := by unfold atq; omega
  have hp : (100 + 85 * a + w - 100) % 85 = w := by
    rcases (by omega : a = 0 ∨ a = 1) with rfl | rfl <;> omega
  constructor
  · unfold atlo
    simp only [e, hp]
    repeat' split
    all_goals omega
  · unfold athi
    simp only [e, hp]
    repeat' split
    all_goals omega
theorem at_n (i s : Int) (h : 272 * s ≤ i ∧ i ≤ 272 * s + 3) : atlo i = 0 ∧ athi i = 2 := by
  have e : atq i = i - 272 * s := by unfold atq; omega
  constructor
  · unfold atlo
    simp only [e]
    repeat' split
    all_goals omega
  · unfold athi
    simp only [e]
    repeat' split
    all_goals omega
theorem fin_no {L : List (Nat × Int)} {k : Nat} {i : Int} (h : L.all (fun p => !(p.1 == k)) = true) : fin L k i = false := by
  unfold fin
  apply List.any_eq_false.mpr
  intro p hp
  have := List.all_eq_true.mp h p hp
  simp at this
  simp [this]
theorem kd_163 : kd 163 = 64 := by decide +kernel
theorem kd_164 : kd 164 = 65 := by decide +kernel
theorem kd_165 : kd 165 = 66 := by decide +kernel
theorem kd_168 : kd 168 = 69 := by decide +kernel
theorem kd_170 : kd 170 = 71 := by decide +kernel
theorem kd_171 : kd 171 = 72 := by decide +kernel
theorem kd_174 : kd 174 = 75 := by decide +kernel
theorem kd_175 : kd 175 = 76 := by decide +kernel
theorem kd_182 : kd 182 = 82 := by decide +kernel
theorem kd_187 : kd 187 = 86 := by decide +kernel
