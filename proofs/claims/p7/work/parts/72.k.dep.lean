/-! words in trays -/
def zWO (f : Int → Int) (a1 n pl l : Int) : Prop := 0 ≤ a1 ∧ a1 ≤ 3 ∧ 0 ≤ n ∧ n ≤ 20 ∧ ¬ pl = -1 ∧ n ≤ pl ∧ ∀ k, 0 ≤ k → k < n → 0 ≤ f (60 * a1 + k) ∧ f (60 * a1 + k) < l
def zWR (b : Int) (f : Int → Int) (a1 n pl l r : Int) : Prop := (r = 0 ∧ b = 1 ∧ zWO f a1 n pl l) ∨ (¬ r = 0 ∧ ¬ (b = 1 ∧ zWO f a1 n pl l))
theorem zWR.n {b a1 n pl l r : Int} {f : Int → Int} (h : zWR b f a1 n pl l r) (hr : ¬ r = 0) : ¬ (b = 1 ∧ zWO f a1 n pl l) := by
  rcases h with h | h
  · exact absurd h.1 hr
  · exact h.2
def zmx (a b : Int) : Int := if a < b then b else a
def zdp (w : Int → Int) (c p : Int) : Nat → Int × Int × Int
  | 0 => (0, 0, 0)
  | n + 1 => if w (n : Int) < c then ((zdp w c p n).1 + 1, (zdp w c p n).2.1, zmx (zdp w c p n).2.2 ((zdp w c p n).1 + 1)) else if w (n : Int) < p then (if 0 < (zdp w c p n).1 then ((zdp w c p n).1 - 1, (zdp w c p n).2.1, (zdp w c p n).2.2) else ((zdp w c p n).1, (zdp w c p n).2.1 + 1, (zdp w c p n).2.2)) else zdp w c p n
def zDJ (w : Int → Int) (c p i P L D : Int) : Prop := 0 ≤ i ∧ zdp w c p i.toNat = (P, L, D)
theorem zDJ.c {w : Int → Int} {c p i i' P P' L D D' : Int} (h : zDJ w c p i P L D) (e : i' = i + 1) (hw : w i < c) (hP : P' = P + 1) (hD : (D' = D ∨ D' = P') ∧ D ≤ D' ∧ P' ≤ D') : zDJ w c p i' P' L D' := by
  obtain ⟨h0, h1⟩ := h
  subst e
  refine ⟨by omega, ?_⟩
  rw [show (i + 1).toNat = i.toNat + 1 by omega, zdp, h1, show ((i.toNat : Nat) : Int) = i by omega, if_pos hw]
  have z : zmx D (P + 1) = D' := by unfold zmx; split <;> omega
  show (P + 1, L, zmx D (P + 1)) = (P', L, D')
  rw [z, hP]
theorem zDJ.r {w : Int → Int} {c p i i' P P' L D : Int} (h : zDJ w c p i P L D) (e : i' = i + 1) (hw : ¬ w i < c) (hv : w i < p) (h2 : 0 < P) (hP : P' = P - 1) : zDJ w c p i' P' L D := by
  obtain ⟨h0, h1⟩ := h
  subst e
  refine ⟨by omega, ?_⟩
  rw [show (i + 1).toNat = i.toNat + 1 by omega, zdp, h1, show ((i.toNat : Nat) : Int) = i by omega, if_neg hw, if_pos hv, hP]
  show (if 0 < P then (P - 1, L, D) else (P, L + 1, D)) = (P - 1, L, D)
  rw [if_pos h2]
def zpk (k : Int) (t : Int × Int × Int) : Int := if k = 0 then t.1 else if k = 1 then t.2.1 else t.2.2
theorem zDJ.k {w : Int → Int} {c p i n P L D k r : Int} (h : zDJ w c p i P L D) (e : i = n) (hr : (k = 0 ∧ r = P) ∨ (k = 1 ∧ r = L) ∨ (k = 2 ∧ r = D)) : r = zpk k (zdp w c p n.toNat) := by
  subst e
  rw [h.2]
  rcases hr with ⟨a, b⟩ | ⟨a, b⟩ | ⟨a, b⟩ <;> subst a b <;> rfl
def zDE (f : Int → Int) (a1 n k pl l c p r : Int) : Prop := ((0 ≤ k ∧ k ≤ 2 ∧ zWO f a1 n pl l) ∧ r = zpk k (zdp (fun j => f (60 * a1 + j)) c p n.toNat)) ∨ (¬ (0 ≤ k ∧ k ≤ 2 ∧ zWO f a1 n pl l) ∧ r = -1)
theorem zDE.u {f : Int → Int} {a1 n k pl l c p r r' : Int} (h : zDE f a1 n k pl l c p r) (h' : zDE f a1 n k pl l c p r') : r = r' := by
  rcases h with ⟨a, b⟩ | ⟨a, b⟩ <;> rcases h' with ⟨a', b'⟩ | ⟨a', b'⟩
  · exact b.trans b'.symm
  · exact absurd a a'
  · exact absurd a' a
  · exact b.trans b'.symm
