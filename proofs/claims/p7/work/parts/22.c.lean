/-! the rules lead from states to states -/
def RWs (A : Int → Int) (s : Int) : Prop := ∀ a k, 0 ≤ a → a ≤ 1 → 0 ≤ k → k < A (272 * s + 104 + 85 * a) → A (272 * s + 106 + 85 * a + 4 * k) < A (272 * s + 100 + 85 * a) ∧ A (272 * s + 107 + 85 * a + 4 * k) < A (272 * s + 100 + 85 * a)
theorem RWs.eq {A A' : Int → Int} {s : Int} (h : RWs A s) (hx : ∀ j, 272 * s + 100 ≤ j → j < 272 * s + 270 → A' j = A j) (hc : ∀ a, 0 ≤ a → a ≤ 1 → A (272 * s + 104 + 85 * a) ≤ 20) : RWs A' s := by
  intro a k h0 h1 hk hl
  have e1 := hx (272 * s + 104 + 85 * a) (by omega) (by omega)
  have c1 := hc a h0 h1
  rw [e1] at hl
  have q := h a k h0 h1 hk hl
  rw [hx (272 * s + 106 + 85 * a + 4 * k) (by omega) (by omega), hx (272 * s + 107 + 85 * a + 4 * k) (by omega) (by omega), hx (272 * s + 100 + 85 * a) (by omega) (by omega)]
  exact q
def YY (M : Mem) : Prop := ∀ s, 0 ≤ s → s ≤ 3 → RWs (M 164) s
abbrev R4 (M : Mem) : Prop := RWs (M 164) 4
def LO (N M : Mem) : Prop := ∀ j, j < 1088 → N 164 j = M 164 j
theorem LO.rf (M : Mem) : LO M M := fun _ _ => rfl
theorem LO.trans {M N P : Mem} (h : LO N M) (h2 : LO P N) : LO P M := fun j hj => (h2 j hj).trans (h j hj)
theorem LO.fr {L : List (Nat × Int)} {M N P : Mem} (h : LO N M) (hF : Fr L N P) (hL : L.all (fun p => !(p.1 == 65)) = true) : LO P M := fun j hj => by rw [hF.e kd_164 j (fin_no hL)]; exact h j hj
theorem YY.fr {L : List (Nat × Int)} {M N : Mem} (h : YY M) (hF : Fr L M N) (hL : L.all (fun p => !(p.1 == 65)) = true) : YY N := by
  have e : N 164 = M 164 := funext (fun j => hF.e kd_164 j (fin_no hL))
  intro s h0 h3
  rw [e]; exact h s h0 h3
theorem R4.fr {L : List (Nat × Int)} {M N : Mem} (h : R4 M) (hF : Fr L M N) (hL : L.all (fun p => !(p.1 == 65)) = true) : R4 N := by
  have e : N 164 = M 164 := funext (fun j => hF.e kd_164 j (fin_no hL))
  show RWs (N 164) 4
  rw [e]; exact h
/-- places that were laid as others are -/
def CPk (N P : Mem) (to fr k : Int) : Prop := (∀ j, 0 ≤ j → j < k → N 164 (to + j) = P 164 (fr + j)) ∧ ∀ j, (j < to ∨ to + k ≤ j) → N 164 j = P 164 j
theorem CPk.at {N P : Mem} {to fr k k' : Int} (h : CPk N P to fr k) (e : k = k') : CPk N P to fr k' := e ▸ h
theorem CPk.fr {L : List (Nat × Int)} {M N P : Mem} {to fr k : Int} (h : CPk M P to fr k) (hF : Fr L M N) (hL : L.all (fun p => !(p.1 == 65)) = true) : CPk N P to fr k := ⟨fun j h0 h1 => by rw [hF.e kd_164 _ (fin_no hL)]; exact h.1 j h0 h1, fun j hj => by rw [hF.e kd_164 _ (fin_no hL)]; exact h.2 j hj⟩
