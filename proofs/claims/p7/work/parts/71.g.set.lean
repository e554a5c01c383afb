/-! a setting as another one is -/
def SWk (M : Mem) (c : Int) : Int → Prop := fun x => x = c ∨ x = M c 5 ∨ x = M c 6 ∨ x = M c 7
theorem SWk.in {M : Mem} {c x : Int} (h : SWk M c x) (hZ : FZ M) (hk : kd c = 8) : c ≤ x ∧ x < c + 4 := by
  have z := hZ.2.2 c hk
  rcases h with e | e | e | e <;> omega
theorem SWk.fr {L : List (Nat × Int)} {M N : Mem} {c x : Int} (h : SWk N c x) (hk : kd c = 8) (hF : Fr L M N) (hL : fzL L = true) (hZ : FZ M) : SWk M c x := by
  have zM := hZ.2.2 c hk
  have zN := (FZ.fr hZ hF hL).2.2 c hk
  unfold SWk at h ⊢
  rw [zN.1, zN.2.1, zN.2.2] at h
  rw [zM.1, zM.2.1, zM.2.2]; exact h
