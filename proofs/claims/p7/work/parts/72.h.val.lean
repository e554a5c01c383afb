/-! what trays hold -/
def zcut (v s : Int) : Int := if s = 0 then ((Int32.ofInt (w32 v)).toInt8).toInt else if s = 1 then ((Int32.ofInt (w32 v)).toInt16).toInt else if s = 2 then w32 v else v
def zdn (d : Int) : Int := (d * 3287 + 11519) % 65536
def zds : Nat → Int → Int
  | 0, s => s
  | n + 1, s => zdn (zds n s)
def zdi (i s : Int) : Int := zds i.toNat s
def zdr (d n : Int) : Int := zdn d / 8 % n
def zvs (f : Int → Int) (b n seed l s : Int) : Int → Int := fun j => if b ≤ j ∧ j < b + n then zcut (zdr (zdi (j - b) seed) l) s else f j
def zSPk (a1 a2 a3 p l : Int) : Prop := 0 ≤ a1 ∧ a1 ≤ 3 ∧ 0 ≤ a2 ∧ a2 ≤ 20 ∧ 0 ≤ a3 ∧ a3 ≤ 9999 ∧ ¬ p = -1 ∧ a2 ≤ p ∧ (0 < l ∨ a2 = 0)
def zSM (f g : Int → Int) (a1 a2 a3 p l s r : Int) : Prop := (r = 1 ∧ zSPk a1 a2 a3 p l ∧ g = zvs f (60 * a1) a2 a3 l s) ∨ (r = 0 ∧ ¬ zSPk a1 a2 a3 p l ∧ g = f)
theorem zSM.u {f g g' : Int → Int} {a1 a2 a3 p l s r r' : Int} (h : zSM f g a1 a2 a3 p l s r) (h' : zSM f g' a1 a2 a3 p l s r') : r = r' ∧ g = g' := by
  rcases h with ⟨a, b, c⟩ | ⟨a, b, c⟩ <;> rcases h' with ⟨a', b', c'⟩ | ⟨a', b', c'⟩
  · exact ⟨a.trans a'.symm, c.trans c'.symm⟩
  · exact absurd b b'
  · exact absurd b' b
  · exact ⟨a.trans a'.symm, c.trans c'.symm⟩
/-- one row where a call is done, the same one where it is refused -/
def zV2 (f g h : Int → Int) (r : Int) : Prop := (r = 1 ∧ g = h) ∨ (r = 0 ∧ g = f)
theorem zV2.u {f g g' h : Int → Int} {r r' : Int} (a : zV2 f g h r) (b : zV2 f g' h r') (e : r = r') : g = g' := by
  rcases a with ⟨x, y⟩ | ⟨x, y⟩ <;> rcases b with ⟨x', y'⟩ | ⟨x', y'⟩
  · exact y.trans y'.symm
  · omega
  · omega
  · exact y.trans y'.symm
def zRD (f : Int → Int) (a1 a2 p r : Int) : Prop := ((0 ≤ a1 ∧ a1 ≤ 3 ∧ 0 ≤ a2 ∧ a2 < p) ∧ r = f (60 * a1 + a2)) ∨ (¬ (0 ≤ a1 ∧ a1 ≤ 3 ∧ 0 ≤ a2 ∧ a2 < p) ∧ r = -1)
theorem zRD.u {f : Int → Int} {a1 a2 p r r' : Int} (h : zRD f a1 a2 p r) (h' : zRD f a1 a2 p r') : r = r' := by
  rcases h with ⟨a, b⟩ | ⟨a, b⟩ <;> rcases h' with ⟨a', b'⟩ | ⟨a', b'⟩
  · exact b.trans b'.symm
  · exact absurd a a'
  · exact absurd a' a
  · exact b.trans b'.symm
