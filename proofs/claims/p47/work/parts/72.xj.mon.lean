/-! the monitor by the one array -/
theorem mu_up {M N : Mem} {i v : Int} (h : N = mu M 164 i v) : N 164 = upk (M 164) i v := funext (fun j => by rw [h, mu_at]; rfl)
def zCB (g st K : Int → Int) (l : Int) : Int → Int := if 0 < g 6 then upk (upk (upk g 6 (g 6 - 1)) 7 (zmZ (g (10 + 3 * (g 6 - 1))) (zovZ K (g (12 + 3 * (g 6 - 1))) l (g 8) 3) 3)) 8 (thnZ (g (11 + 3 * (g 6 - 1))) (zovZ K (g (12 + 3 * (g 6 - 1))) l (g 8) 3) 9) else upk (upk g 7 (zmZ (g 7) (st l) 3)) 8 (thnZ (g 8) (st l) 9)
theorem zCB.i {g st K f : Int → Int} {l v7 v8 : Int} (h : ¬ 0 < g 6) (hf : f = upk (upk g 7 v7) 8 v8) (e7 : v7 = zmZ (g 7) (st l) 3) (e8 : v8 = thnZ (g 8) (st l) 9) : f = zCB g st K l := by
  subst e7 e8; unfold zCB; rw [if_neg h]; exact hf
theorem zCB.b {g st K f : Int → Int} {l v6 v7 v8 i0 i1 i2 bb : Int} (h : 0 < g 6) (hf : f = upk (upk (upk g 6 v6) 7 v7) 8 v8) (e6 : v6 = g 6 - 1) (h0 : i0 = 10 + 3 * (g 6 - 1)) (h1 : i1 = 11 + 3 * (g 6 - 1)) (h2 : i2 = 12 + 3 * (g 6 - 1)) (eb : bb = zovZ K (g i2) l (g 8) 3) (e7 : v7 = zmZ (g i0) bb 3) (e8 : v8 = thnZ (g i1) bb 9) : f = zCB g st K l := by
  subst e7 e8 eb e6 h0 h1 h2; unfold zCB; rw [if_pos h]; exact hf
theorem zCB_o {g st K : Int → Int} {l i : Int} (hi : i < 6 ∨ 9 ≤ i) : zCB g st K l i = g i := by
  unfold zCB
  split
  · rw [upk_o (by omega), upk_o (by omega), upk_o (by omega)]
  · rw [upk_o (by omega), upk_o (by omega)]
theorem zse.r {g st K f N : Int → Int} {n l so v5 : Int} (hs : so = 1) (hN : N = upk f 5 v5) (hf : f = zCB g st K l) (e5 : v5 = w32 (f 5 + 1)) : N = zse g st K n l so := by
  have e : f 5 = g 5 := by rw [hf, zCB_o (by omega)]
  rw [hN, e5, e, hf]
  unfold zse
  rw [if_neg (show ¬ so = 0 by omega)]
  unfold zCB
  by_cases h : 0 < g 6
  · rw [if_pos h, if_pos (show so = 1 ∧ 0 < g 6 from ⟨hs, h⟩)]
  · rw [if_neg h, if_neg (show ¬ (so = 1 ∧ 0 < g 6) from fun c => h c.2)]
theorem zse.n {g st K N : Int → Int} {n l so v5 v7 v8 : Int} (hs : so = 2) (hN : N = upk (upk (upk g 7 v7) 8 v8) 5 v5) (e7 : v7 = zmZ (g 7) (st l) 3) (e8 : v8 = thnZ (g 8) (st l) 9) (e5 : v5 = w32 (g 5 + 1)) : N = zse g st K n l so := by
  subst e7 e8 e5
  unfold zse
  rw [if_neg (by omega), if_neg (fun c => by omega)]
  exact hN
theorem zse.c {g st K N : Int → Int} {n l so i1 i2 i3 v1 v2 v3 v5 v6 v7 v8 : Int} (hs : so = 0) (hN : N = upk (upk (upk (upk (upk (upk (upk g i1 v1) i2 v2) i3 v3) 6 v6) 7 v7) 8 v8) 5 v5) (h1 : i1 = 10 + 3 * g 6) (h2 : i2 = 11 + 3 * g 6) (h3 : i3 = 12 + 3 * g 6) (e1 : v1 = g 7) (e2 : v2 = g 8) (e3 : v3 = l) (e6 : v6 = g 6 + 1) (e7 : v7 = zmZ (g 7) (st l) 3) (e8 : v8 = smeZ n) (e5 : v5 = w32 (g 5 + 1)) : N = zse g st K n l so := by
  subst h1 h2 h3 e1 e2 e3 e6 e7 e8 e5
  unfold zse
  rw [if_pos hs]
  exact hN
