/-! the whole text: the class -/
theorem latx {M : Mem} {c : Int} {q : Int → Int} (hI : Inv false M) (hk : kd (M c 0) = 12) (h : q 3 = 1 ∨ q 3 = 2) : ∃ x b : Int, kd x = 1 ∧ ((b = 100 ∧ q 3 = 1 ∧ x = M (M c 0) 4) ∨ (b = 185 ∧ q 3 = 2 ∧ x = M (M c 0) 5)) := by
  rcases h with e | e
  · exact ⟨M (M c 0) 4, 100, Inv.r hI hk rfl 4 rfl rfl, Or.inl ⟨rfl, e, rfl⟩⟩
  · exact ⟨M (M c 0) 5, 185, Inv.r hI hk rfl 5 rfl rfl, Or.inr ⟨rfl, e, rfl⟩⟩
theorem tq_n {B : Int → Int} {n i j : Int} (hT : TX B n) (hn : 0 ≤ n) (hj : 0 ≤ j) (hi : i = j - 1) : 0 ≤ tq B i ∧ tq B i ≤ n := by
  subst hi
  by_cases e : j = 0
  · subst e; rw [show (0 : Int) - 1 = -1 by decide, tq_0]; omega
  · have := tp_le hT hn (j := j - 1) (by omega); omega
theorem zTB.of {N M : Mem} {c a n : Int} {B : Int → Int} (h : zTB M a n B) (e4 : N c 4 = a) (e5 : N c 5 = n) (et : ∀ i, N a i = M a i) : TB N c B := fun i => by
  rw [e5, e4, et i]; exact h i
def zTKs (N : Mem) (c : Int) (B : Int → Int) (g x j : Int) (q t : Int → Int) : Prop := (g = 1 ∧ x ≤ tq B (j - 1) ∧ N c 7 + N c 8 = tq B (j - 1) ∧ CQ N c q ∧ NU N c B t q ∧ CA N c q ∧ N c 2 = 0 ∧ N c 3 = -1) ∨ (g = 0 ∧ zTm B t q j (N c 2) (N c 3) ∧ ¬ N c 2 = 0)
def zTK (N : Mem) (c : Int) (B : Int → Int) (g x : Int) : Prop := ∃ (k : Nat) (j : Int) (q t : Int → Int), zCH B k j q t ∧ zTKs N c B g x j q t
theorem zTKs.y {N : Mem} {c g x j : Int} {B q t : Int → Int} (h : zTKs N c B g x j q t) (hg : ¬ g = 0) : x ≤ tq B (j - 1) ∧ N c 7 + N c 8 = tq B (j - 1) ∧ CQ N c q ∧ NU N c B t q ∧ CA N c q ∧ N c 2 = 0 ∧ N c 3 = -1 := by
  rcases h with h | h
  · exact h.2
  · exact absurd h.1 hg
theorem zTKs.n {N : Mem} {c g x j : Int} {B q t : Int → Int} (h : zTKs N c B g x j q t) (hg : g = 0) : zTm B t q j (N c 2) (N c 3) ∧ ¬ N c 2 = 0 := by
  rcases h with h | h
  · exact absurd h.1 (by omega)
  · exact h.2
theorem zTKs.z {N : Mem} {c g x j n : Int} {B q t : Int → Int} (h : zTKs N c B g x j q t) (hT : TX B n) (hn : 0 ≤ n) (hj : 0 ≤ j) (hx : n < x) : g = 0 := by
  rcases h with h | h
  · have := tq_n hT hn hj rfl; omega
  · exact h.1
theorem zTK.ini {N : Mem} {c : Int} {B : Int → Int} (hQ : N (N c 0) 0 = 0 ∧ N (N c 0) 1 = 0 ∧ N (N c 0) 2 = 0 ∧ N (N c 0) 3 = 0) (h7 : N c 7 + N c 8 = 0) (h2 : N c 2 = 0) (h3 : N c 3 = -1) : zTK N c B 1 0 := ⟨0, 0, fun _ => 0, fun _ => 0, ⟨rfl, rfl, rfl⟩, Or.inl ⟨rfl, Int.le_refl _, h7, ⟨hQ.1, hQ.2.1, hQ.2.2.1, hQ.2.2.2, by decide, by decide, by decide, by decide, by decide, by decide, by decide, by decide⟩, fun s a b d => absurd (show s - 2 * (s / 2) < 0 from d) (by omega), CA.nil (Int.le_refl _), h2, h3⟩⟩
theorem zTK.next {N : Mem} {c x j e fk fp n x' : Int} {B q t q2 t2 : Int → Int} {k : Nat} (h : zCH B k j q t) (hT : TX B n) (hn : 0 ≤ n) (hp : zPS B t q j 1 fk fp e q2 t2) (hx : x ≤ tq B (j - 1)) (hx' : x' = x + 1) (h7 : N c 7 + N c 8 = tq B e) (hQ : CQ N c q2) (hN : NU N c B t2 q2) (hA : CA N c q2) (h2 : N c 2 = 0) (h3 : N c 3 = -1) : zTK N c B 1 x' := by
  subst hx'
  have hv := zCH.v k h
  have g := hp.g hT hn hv.1 rfl
  refine ⟨k + 1, e + 1, q2, t2, ⟨j, q, t, fk, fp, e, h, hp, rfl⟩, Or.inl ⟨rfl, ?_, ?_, hQ, hN, hA, h2, h3⟩⟩
  · rw [show e + 1 - 1 = e by omega]; omega
  · rw [show e + 1 - 1 = e by omega]; exact h7
theorem zTK.stop {N : Mem} {c x j : Int} {B q t : Int → Int} {k : Nat} (h : zCH B k j q t) (ht : zTm B t q j (N c 2) (N c 3)) (h2 : ¬ N c 2 = 0) : zTK N c B 0 x := ⟨k, j, q, t, h, Or.inr ⟨rfl, ht, h2⟩⟩
theorem zPS.r1 {B t q q2 t2 : Int → Int} {j r fk fp e : Int} (h : zPS B t q j r fk fp e q2 t2) (hr : r = 1) : zPS B t q j 1 fk fp e q2 t2 := by subst hr; exact h
theorem zPS.r0 {B t q q2 t2 : Int → Int} {j r fk fp e : Int} (h : zPS B t q j r fk fp e q2 t2) (hr : r = 0) : zPS B t q j 0 fk fp e q2 t2 := by subst hr; exact h
theorem zPS.f {B t q q2 t2 : Int → Int} {j fk fp e : Int} (h : zPS B t q j 0 fk fp e q2 t2) : ¬ fk = 0 := by
  have en : ∀ {e z : Int}, zEN B e z 0 fk fp → ¬ fk = 0 := fun h => by
    unfold zEN at h
    rcases h with h | h | h | h <;> omega
  rcases h with ⟨a0, a1, a2, a3, a4, a5⟩ | ⟨a0, a2, a3, a4, a5⟩ | ⟨a0, a1, a2, ⟨s, a3, a4⟩, a5⟩ | ⟨a0, a2, ⟨y, a3, a4⟩, a5⟩ | ⟨a0, a1, a2, a3⟩
  · rcases a2 with z | z
    · exact z.2.f
    · exact en z.2
  · rcases a2 with z | z
    · exact z.2.f
    · exact en z.2
  · obtain ⟨k, c1, c2, c3⟩ := a3
    unfold SRs at c3
    rcases c3 with c | c | c | c | c <;> omega
  · rcases a3 with z | z
    · exact z.2.f
    · exact en z.2
  · omega
/-- the class's checker that was read, with what it comes to -/
def zFIN (N : Mem) (c : Int) (B : Int → Int) (r : Int) : Prop := ∃ q t, zOUT B (N c 2) (N c 3) q t ∧ ((r = 1 ∧ N c 2 = 0 ∧ CQ N c q ∧ CA N c q) ∨ (r = 0 ∧ ¬ N c 2 = 0))
theorem CQ.fr {L : List (Nat × Int)} {M N : Mem} {c : Int} {q : Int → Int} (h : CQ M c q) (hI : Inv false M) (hk : kd c = 17) (hF : Fr L M N) (hL : (!(fin L 17 0) && L.all (fun p => !(p.1 == 12))) = true) : CQ N c q := by
  simp only [Bool.and_eq_true, Bool.not_eq_true'] at hL
  unfold CQ; rw [hF.e hk 0 hL.1, hF.fn (Inv.r hI hk rfl 0 rfl rfl) hL.2]; exact h
theorem CA.fr {L : List (Nat × Int)} {M N : Mem} {c : Int} {q : Int → Int} (h : CA M c q) (hI : Inv false M) (hk : kd c = 17) (hF : Fr L M N) (hL : (!(fin L 17 0) && L.all (fun p => !(p.1 == 12)) && L.all (fun p => !(IK p.1))) = true) : CA N c q := by
  simp only [Bool.and_eq_true, Bool.not_eq_true'] at hL
  have km := Inv.r hI hk rfl 0 rfl rfl
  unfold CA; rw [hF.e hk 0 hL.1.1, hF.fn km hL.1.2]
  exact ⟨fun a => (h.1 a).fr hI (Inv.r hI km rfl 4 rfl rfl) hF (by simpa using hL.2), fun a => (h.2 a).fr hI (Inv.r hI km rfl 5 rfl rfl) hF (by simpa using hL.2)⟩
