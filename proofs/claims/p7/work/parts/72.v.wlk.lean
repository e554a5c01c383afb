/-! a walk of summaries: its numbers by places, as the one array has them -/
def zse (g st K : Int → Int) (n l so : Int) : Int → Int :=
  if so = 0 then upk (upk (upk (upk (upk (upk (upk g (10 + 3 * g 6) (g 7)) (11 + 3 * g 6) (g 8)) (12 + 3 * g 6) l) 6 (g 6 + 1)) 7 (zmZ (g 7) (st l) 3)) 8 (smeZ n)) 5 (w32 (g 5 + 1))
  else if so = 1 ∧ 0 < g 6 then upk (upk (upk (upk g 6 (g 6 - 1)) 7 (zmZ (g (10 + 3 * (g 6 - 1))) (zovZ K (g (12 + 3 * (g 6 - 1))) l (g 8) 3) 3)) 8 (thnZ (g (11 + 3 * (g 6 - 1))) (zovZ K (g (12 + 3 * (g 6 - 1))) l (g 8) 3) 9)) 5 (w32 (g 5 + 1))
  else upk (upk (upk g 7 (zmZ (g 7) (st l) 3)) 8 (thnZ (g 8) (st l) 9)) 5 (w32 (g 5 + 1))
def zWG (M : Mem) (w : Int) (g : Int → Int) : Prop := M w 1 = g 5 ∧ M w 2 = g 6 ∧ M w 3 = g 7 ∧ M w 4 = g 8 ∧ ∀ k, 0 ≤ k → k < g 6 → M (M w 5) k = g (10 + 3 * k) ∧ M (M w 6) k = g (11 + 3 * k) ∧ M (M w 7) k = g (12 + 3 * k)
theorem zWG.u {M : Mem} {w : Int} {g : Int → Int} (h : zWG M w g) : M w 1 = g 5 ∧ M w 2 = g 6 ∧ M w 3 = g 7 ∧ M w 4 = g 8 := ⟨h.1, h.2.1, h.2.2.1, h.2.2.2.1⟩
