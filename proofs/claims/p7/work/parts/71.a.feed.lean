def zbv (v s : Int) : Int := ((Int32.ofInt (zshr v s)).toInt8).toInt
def zAWs (f g : Int → Int) (t v x : Int) : Prop := ∀ i, g i = if t ≤ i ∧ i < x then zbv v (24 - 8 * (i - t)) else f i
theorem zAWs.cg {f g g' : Int → Int} {t v x t' x' : Int} (h : zAWs f g t v x) (hg : g' = g) (ht : t = t') (hx : x = x') : zAWs f g' t' v x' := by subst hg ht hx; exact h
theorem zAWs.u {f g g' : Int → Int} {t v x : Int} (h : zAWs f g t v x) (h' : zAWs f g' t v x) : g = g' := funext (fun i => (h i).trans (h' i).symm)
def zFD (f g : Int → Int) (t a b c d e : Int) : Prop := (881 ≤ t ∧ g = f) ∨ (t ≤ 880 ∧ ∃ f1 f2 f3 f4, zAWs f f1 t a (t + 4) ∧ zAWs f1 f2 (t + 4) b (t + 8) ∧ zAWs f2 f3 (t + 8) c (t + 12) ∧ zAWs f3 f4 (t + 12) d (t + 16) ∧ zAWs f4 g (t + 16) e (t + 20))
theorem zFD.u {f g g' : Int → Int} {t a b c d e : Int} (h : zFD f g t a b c d e) (h' : zFD f g' t a b c d e) : g = g' := by
  rcases h with ⟨h1, h2⟩ | ⟨h1, f1, f2, f3, f4, h2, h3, h4, h5, h6⟩ <;> rcases h' with ⟨k1, k2⟩ | ⟨k1, f1', f2', f3', f4', k2, k3, k4, k5, k6⟩
  · exact h2.trans k2.symm
  · omega
  · omega
  · have e1 := h2.u k2
    subst e1
    have e2 := h3.u k3
    subst e2
    have e3 := h4.u k4
    subst e3
    have e4 := h5.u k5
    subst e4
    exact h6.u k6
