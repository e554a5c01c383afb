/-! an automaton as another one is -/
theorem mcp_s {M : Mem} {a sp c dp n j : Int} (h : dp ≤ j ∧ j < dp + n) : mcp M a sp c dp n c j = M a (sp + (j - dp)) := if_pos ⟨rfl, h⟩
def zBE (N M : Mem) (x y : Int) : Prop := ∀ i, 0 ≤ i → i < 20 → N (M x 6) i = M (M y 6) i ∧ N (M x 7) i = M (M y 7) i ∧ N (M x 8) i = M (M y 8) i ∧ N (M x 9) i = M (M y 9) i
def zBX (N M : Mem) (x y : Int) : Prop := (∀ i, 0 ≤ i → i < 6 → N (M x 10) i = M (M y 10) i) ∧ ∀ i, 0 ≤ i → i < 18 → N (M x 11) i = M (M y 11) i
theorem AT0.bec {M N : Mem} {x y b b' : Int} {q q' : Int → Int} (h : AT0 M y q b) (n0 : N x 0 = M y 0) (n1 : N x 1 = M y 1) (n2 : N x 2 = M y 2) (n3 : N x 3 = M y 3) (n4 : N x 4 = M y 4) (n5 : N x 5 = M y 5) (f6 : N x 6 = M x 6) (f7 : N x 7 = M x 7) (f8 : N x 8 = M x 8) (f9 : N x 9 = M x 9) (u : zBE N M x y) (h0 : q' 0 = q 0) (hq : ∀ i, 0 ≤ i → i < 85 → q' (b' + i) = q (b + i)) (hr : q (b + 4) ≤ 20) : AT0 N x q' b' := by
  obtain ⟨a0, a1, a2, a3, a4, a5, a6⟩ := h
  have e0 := hq 0 (by decide) (by decide)
  rw [Int.add_zero, Int.add_zero] at e0
  refine ⟨by rw [n0, e0]; exact a0, by rw [n1, hq 1 (by decide) (by decide)]; exact a1, by rw [n2, hq 2 (by decide) (by decide)]; exact a2, by rw [n3, hq 3 (by decide) (by decide)]; exact a3, by rw [n4, hq 4 (by decide) (by decide)]; exact a4, by rw [n5, h0]; exact a5, fun k hk hl => ?_⟩
  rw [hq 4 (by decide) (by decide)] at hl
  have g := a6 k hk hl
  have w := u k hk (by omega)
  have f : ∀ i : Int, 5 ≤ i → i ≤ 8 → q' (b' + i + 4 * k) = q (b + i + 4 * k) := fun i h1 h2 => by
    rw [Int.add_assoc, Int.add_assoc]; exact hq (i + 4 * k) (by omega) (by omega)
  rw [f6, f7, f8, f9, w.1, w.2.1, w.2.2.1, w.2.2.2, f 5 (by decide) (by decide), f 6 (by decide) (by decide), f 7 (by decide) (by decide), f 8 (by decide) (by decide)]
  exact g
theorem AT.bec {M N : Mem} {x y b b' : Int} {q q' : Int → Int} (h : AT M y q b) (n0 : N x 0 = M y 0) (n1 : N x 1 = M y 1) (n2 : N x 2 = M y 2) (n3 : N x 3 = M y 3) (n4 : N x 4 = M y 4) (n5 : N x 5 = M y 5) (f6 : N x 6 = M x 6) (f7 : N x 7 = M x 7) (f8 : N x 8 = M x 8) (f9 : N x 9 = M x 9) (f10 : N x 10 = M x 10) (f11 : N x 11 = M x 11) (u : zBE N M x y) (ux : zBX N M x y) (h0 : q' 0 = q 0) (hq : ∀ i, 0 ≤ i → i < 85 → q' (b' + i) = q (b + i)) (hr : q (b + 4) ≤ 20) : AT N x q' b' := by
  obtain ⟨w1, w2⟩ := h.2
  have e4 := h.1.num.2.2.2.2.1
  refine ⟨AT0.bec h.1 n0 n1 n2 n3 n4 n5 f6 f7 f8 f9 u h0 hq hr, fun l a c => ?_, fun l g a c d e => ?_⟩
  · rw [f10, f6, f7, f8, f9, n5, n4, ux.1 l a c, w1 l a c]
    exact (zsF.cg rfl _ (fun j p r => by have z := u j p (by omega); exact ⟨z.1, z.2.1, z.2.2.1, z.2.2.2⟩)).symm
  · rw [f11, f6, f7, f8, f9, n4, ux.2 (3 * l + g) (by omega) (by omega), w2 l g a c d e]
    exact (zkF.cg _ (fun j p r => by have z := u j p (by omega); exact ⟨z.1, z.2.1, z.2.2.1, z.2.2.2⟩)).symm
