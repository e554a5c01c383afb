/-! a walk of summaries: its numbers by places, as the one array has them -/
def zse (g st K : Int → Int) (n l so : Int) : Int → Int :=
  if so = 0 then upk (upk (upk (upk (upk (upk (upk g (10 + 3 * g 6) (g 7)) (11 + 3 * g 6) (g 8)) (12 + 3 * g 6) l) 6 (g 6 + 1)) 7 (zmZ (g 7) (st l) 3)) 8 (smeZ n)) 5 (w32 (g 5 + 1))
  else if so = 1 ∧ 0 < g 6 then upk (upk (upk (upk g 6 (g 6 - 1)) 7 (zmZ (g (10 + 3 * (g 6 - 1))) (zovZ K (g (12 + 3 * (g 6 - 1))) l (g 8) 3) 3)) 8 (thnZ (g (11 + 3 * (g 6 - 1))) (zovZ K (g (12 + 3 * (g 6 - 1))) l (g 8) 3) 9)) 5 (w32 (g 5 + 1))
  else upk (upk (upk g 7 (zmZ (g 7) (st l) 3)) 8 (thnZ (g 8) (st l) 9)) 5 (w32 (g 5 + 1))
def zWG (M : Mem) (w : Int) (g : Int → Int) : Prop := M w 1 = g 5 ∧ M w 2 = g 6 ∧ M w 3 = g 7 ∧ M w 4 = g 8 ∧ ∀ k, 0 ≤ k → k < g 6 → M (M w 5) k = g (10 + 3 * k) ∧ M (M w 6) k = g (11 + 3 * k) ∧ M (M w 7) k = g (12 + 3 * k)
theorem zWG.u {M : Mem} {w : Int} {g : Int → Int} (h : zWG M w g) : M w 1 = g 5 ∧ M w 2 = g 6 ∧ M w 3 = g 7 ∧ M w 4 = g 8 := ⟨h.1, h.2.1, h.2.2.1, h.2.2.2.1⟩
theorem zWG.call {M N : Mem} {w l n so : Int} {g st K : Int → Int} (h : zWG M w g) (hs : so = 0) (hp : 0 ≤ M w 2) (f5 : N w 5 = M w 5) (f6 : N w 6 = M w 6) (f7 : N w 7 = M w 7) (u5 : ∀ j, N (M w 5) j = if j = M w 2 then M w 3 else M (M w 5) j) (u6 : ∀ j, N (M w 6) j = if j = M w 2 then M w 4 else M (M w 6) j) (u7 : ∀ j, N (M w 7) j = if j = M w 2 then l else M (M w 7) j) (e1 : N w 1 = w32 (M w 1 + 1)) (e2 : N w 2 = M w 2 + 1) (e3 : N w 3 = zmZ (M w 3) (st l) 3) (e4 : N w 4 = smeZ n) : zWG N w (zse g st K n l so) := by
  obtain ⟨a1, a2, a3, a4, a5⟩ := h
  have z : zse g st K n l so = upk (upk (upk (upk (upk (upk (upk g (10 + 3 * g 6) (g 7)) (11 + 3 * g 6) (g 8)) (12 + 3 * g 6) l) 6 (g 6 + 1)) 7 (zmZ (g 7) (st l) 3)) 8 (smeZ n)) 5 (w32 (g 5 + 1)) := by unfold zse; rw [if_pos hs]
  rw [z]
  have g6 : 0 ≤ g 6 := by omega
  refine ⟨by rw [upk_s, e1, a1], ?_, ?_, ?_, fun k h0 h1 => ?_⟩
  · rw [upk_o (by omega), upk_o (by omega), upk_o (by omega), upk_s, e2, a2]
  · rw [upk_o (by omega), upk_o (by omega), upk_s, e3, a3]
  · rw [upk_o (by omega), upk_s, e4]
  · rw [upk_o (by omega), upk_o (by omega), upk_o (by omega), upk_s] at h1
    rw [f5, f6, f7, u5, u6, u7, a2]
    by_cases y : k = g 6
    · subst y
      rw [if_pos rfl, if_pos rfl, if_pos rfl]
      refine ⟨?_, ?_, ?_⟩
      · rw [upk_o (by omega), upk_o (by omega), upk_o (by omega), upk_o (by omega), upk_o (by omega), upk_o (by omega), upk_s, a3]
      · rw [upk_o (by omega), upk_o (by omega), upk_o (by omega), upk_o (by omega), upk_o (by omega), upk_s, a4]
      · rw [upk_o (by omega), upk_o (by omega), upk_o (by omega), upk_o (by omega), upk_s]
    · rw [if_neg y, if_neg y, if_neg y]
      obtain ⟨b1, b2, b3⟩ := a5 k h0 (by omega)
      have o : ∀ i, 10 ≤ i → i < 10 + 3 * g 6 → upk (upk (upk (upk (upk (upk (upk g (10 + 3 * g 6) (g 7)) (11 + 3 * g 6) (g 8)) (12 + 3 * g 6) l) 6 (g 6 + 1)) 7 (zmZ (g 7) (st l) 3)) 8 (smeZ n)) 5 (w32 (g 5 + 1)) i = g i := fun i i0 i1 => by
        rw [upk_o (by omega), upk_o (by omega), upk_o (by omega), upk_o (by omega), upk_o (by omega), upk_o (by omega), upk_o (by omega)]
      rw [o _ (by omega) (by omega), o _ (by omega) (by omega), o _ (by omega) (by omega)]
      exact ⟨b1, b2, b3⟩
theorem zWG.back {M N : Mem} {w l n so b : Int} {g st K : Int → Int} (h : zWG M w g) (hs : so = 1) (hp : 0 < M w 2) (f5 : N w 5 = M w 5) (f6 : N w 6 = M w 6) (f7 : N w 7 = M w 7) (u5 : N (M w 5) = M (M w 5)) (u6 : N (M w 6) = M (M w 6)) (u7 : N (M w 7) = M (M w 7)) (hb : b = zovZ K (M (M w 7) (M w 2 - 1)) l (M w 4) 3) (e1 : N w 1 = w32 (M w 1 + 1)) (e2 : N w 2 = M w 2 - 1) (e3 : N w 3 = zmZ (M (M w 5) (M w 2 - 1)) b 3) (e4 : N w 4 = thnZ (M (M w 6) (M w 2 - 1)) b 9) : zWG N w (zse g st K n l so) := by
  obtain ⟨a1, a2, a3, a4, a5⟩ := h
  have z : zse g st K n l so = upk (upk (upk (upk g 6 (g 6 - 1)) 7 (zmZ (g (10 + 3 * (g 6 - 1))) (zovZ K (g (12 + 3 * (g 6 - 1))) l (g 8) 3) 3)) 8 (thnZ (g (11 + 3 * (g 6 - 1))) (zovZ K (g (12 + 3 * (g 6 - 1))) l (g 8) 3) 9)) 5 (w32 (g 5 + 1)) := by unfold zse; rw [if_neg (by omega), if_pos ⟨hs, by omega⟩]
  obtain ⟨t1, t2, t3⟩ := a5 (g 6 - 1) (by omega) (by omega)
  rw [z]
  rw [a2, t3, a4] at hb
  refine ⟨by rw [upk_s, e1, a1], ?_, ?_, ?_, fun k h0 h1 => ?_⟩
  · rw [upk_o (by omega), upk_o (by omega), upk_o (by omega), upk_s, e2, a2]
  · rw [upk_o (by omega), upk_o (by omega), upk_s, e3, a2, t1, hb]
  · rw [upk_o (by omega), upk_s, e4, a2, t2, hb]
  · rw [upk_o (by omega), upk_o (by omega), upk_o (by omega), upk_s] at h1
    rw [f5, f6, f7, u5, u6, u7]
    obtain ⟨b1, b2, b3⟩ := a5 k h0 (by omega)
    refine ⟨?_, ?_, ?_⟩
    · rw [upk_o (by omega), upk_o (by omega), upk_o (by omega), upk_o (by omega)]; exact b1
    · rw [upk_o (by omega), upk_o (by omega), upk_o (by omega), upk_o (by omega)]; exact b2
    · rw [upk_o (by omega), upk_o (by omega), upk_o (by omega), upk_o (by omega)]; exact b3
theorem zWG.one {M N : Mem} {w l n so : Int} {g st K : Int → Int} (h : zWG M w g) (hs : ¬ so = 0) (hs2 : ¬ (so = 1 ∧ 0 < M w 2)) (f5 : N w 5 = M w 5) (f6 : N w 6 = M w 6) (f7 : N w 7 = M w 7) (u5 : N (M w 5) = M (M w 5)) (u6 : N (M w 6) = M (M w 6)) (u7 : N (M w 7) = M (M w 7)) (e1 : N w 1 = w32 (M w 1 + 1)) (e2 : N w 2 = M w 2) (e3 : N w 3 = zmZ (M w 3) (st l) 3) (e4 : N w 4 = thnZ (M w 4) (st l) 9) : zWG N w (zse g st K n l so) := by
  obtain ⟨a1, a2, a3, a4, a5⟩ := h
  have z : zse g st K n l so = upk (upk (upk g 7 (zmZ (g 7) (st l) 3)) 8 (thnZ (g 8) (st l) 9)) 5 (w32 (g 5 + 1)) := by unfold zse; rw [if_neg hs, if_neg (by rw [← a2]; exact hs2)]
  rw [z]
  refine ⟨by rw [upk_s, e1, a1], ?_, ?_, ?_, fun k h0 h1 => ?_⟩
  · rw [upk_o (by omega), upk_o (by omega), upk_o (by omega), e2, a2]
  · rw [upk_o (by omega), upk_o (by omega), upk_s, e3, a3]
  · rw [upk_o (by omega), upk_s, e4, a4]
  · rw [upk_o (by omega), upk_o (by omega), upk_o (by omega)] at h1
    rw [f5, f6, f7, u5, u6, u7]
    obtain ⟨b1, b2, b3⟩ := a5 k h0 h1
    refine ⟨?_, ?_, ?_⟩
    · rw [upk_o (by omega), upk_o (by omega), upk_o (by omega)]; exact b1
    · rw [upk_o (by omega), upk_o (by omega), upk_o (by omega)]; exact b2
    · rw [upk_o (by omega), upk_o (by omega), upk_o (by omega)]; exact b3
