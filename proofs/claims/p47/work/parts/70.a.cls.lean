/-! the whole text: the class -/
theorem latx {M : Mem} {c : Int} {q : Int → Int} (hI : Inv false M) (hk : kd (M c 0) = 12) (h : q 3 = 1 ∨ q 3 = 2) : ∃ x b : Int, kd x = 1 ∧ ((b = 100 ∧ q 3 = 1 ∧ x = M (M c 0) 4) ∨ (b = 185 ∧ q 3 = 2 ∧ x = M (M c 0) 5)) := by
  rcases h with e | e
  · exact ⟨M (M c 0) 4, 100, Inv.r hI hk rfl 4 rfl rfl, Or.inl ⟨rfl, e, rfl⟩⟩
  · exact ⟨M (M c 0) 5, 185, Inv.r hI hk rfl 5 rfl rfl, Or.inr ⟨rfl, e, rfl⟩⟩
theorem tq_n {B : Int → Int} {n i j : Int} (hT : TX B n) (hn : 0 ≤ n) (hj : 0 ≤ j) (hi : i = j - 1) : 0 ≤ tq B i ∧ tq B i ≤ n := by
  subst hi
  by_cases e : j = 0
  · subst e; rw [show (0 : Int) - 1 = -1 by decide, tq_0]; omega
  · have := tp_le hT hn (j := j - 1) (by omega); omega
theorem zTB.of {N M : Mem} {c a n : Int} {B : Int → Int} (h : zTB M a n B) (e4 : N c 4 = a) (e5 : N c 5 = n) (et : ∀ i, N a i = M a i) : TB N c B := fun i => by
  rw [e5, e4, et i]; exact h i
def zTKs (N : Mem) (c : Int) (B : Int → Int) (g x j : Int) (q t : Int → Int) : Prop := (g = 1 ∧ x ≤ tq B (j - 1) ∧ N c 7 + N c 8 = tq B (j - 1) ∧ CQ N c q ∧ NU N c B t q ∧ CA N c q ∧ N c 2 = 0 ∧ N c 3 = -1) ∨ (g = 0 ∧ zTm B t q j (N c 2) (N c 3) ∧ ¬ N c 2 = 0)
def zTK (N : Mem) (c : Int) (B : Int → Int) (g x : Int) : Prop := ∃ (k : Nat) (j : Int) (q t : Int → Int), zCH B k j q t ∧ zTKs N c B g x j q t
theorem zTKs.y {N : Mem} {c g x j : Int} {B q t : Int → Int} (h : zTKs N c B g x j q t) (hg : ¬ g = 0) : x ≤ tq B (j - 1) ∧ N c 7 + N c 8 = tq B (j - 1) ∧ CQ N c q ∧ NU N c B t q ∧ CA N c q ∧ N c 2 = 0 ∧ N c 3 = -1 := by
  rcases h with h | h
  · exact h.2
  · exact absurd h.1 hg
theorem zTKs.n {N : Mem} {c g x j : Int} {B q t : Int → Int} (h : zTKs N c B g x j q t) (hg : g = 0) : zTm B t q j (N c 2) (N c 3) ∧ ¬ N c 2 = 0 := by
  rcases h with h | h
  · exact absurd h.1 (by omega)
  · exact h.2
theorem zTKs.z {N : Mem} {c g x j n : Int} {B q t : Int → Int} (h : zTKs N c B g x j q t) (hT : TX B n) (hn : 0 ≤ n) (hj : 0 ≤ j) (hx : n < x) : g = 0 := by
  rcases h with h | h
  · have := tq_n hT hn hj rfl; omega
  · exact h.1
theorem zTK.ini {N : Mem} {c : Int} {B : Int → Int} (hQ : N (N c 0) 0 = 0 ∧ N (N c 0) 1 = 0 ∧ N (N c 0) 2 = 0 ∧ N (N c 0) 3 = 0) (h7 : N c 7 + N c 8 = 0) (h2 : N c 2 = 0) (h3 : N c 3 = -1) : zTK N c B 1 0 := ⟨0, 0, fun _ => 0, fun _ => 0, ⟨rfl, rfl, rfl⟩, Or.inl ⟨rfl, Int.le_refl _, h7, ⟨hQ.1, hQ.2.1, hQ.2.2.1, hQ.2.2.2, by decide, by decide, by decide, by decide, by decide, by decide, by decide, by decide⟩, fun s a b d => absurd (show s - 2 * (s / 2) < 0 from d) (by omega), CA.nil (Int.le_refl _), h2, h3⟩⟩
theorem zTK.next {N : Mem} {c x j e fk fp n x' : Int} {B q t q2 t2 : Int → Int} {k : Nat} (h : zCH B k j q t) (hT : TX B n) (hn : 0 ≤ n) (hp : zPS B t q j 1 fk fp e q2 t2) (hx : x ≤ tq B (j - 1)) (hx' : x' = x + 1) (h7 : N c 7 + N c 8 = tq B e) (hQ : CQ N c q2) (hN : NU N c B t2 q2) (hA : CA N c q2) (h2 : N c 2 = 0) (h3 : N c 3 = -1) : zTK N c B 1 x' := by
  subst hx'
  have hv := zCH.v k h
  have g := hp.g hT hn hv.1 rfl
  refine ⟨k + 1, e + 1, q2, t2, ⟨j, q, t, fk, fp, e, h, hp, rfl⟩, Or.inl ⟨rfl, ?_, ?_, hQ, hN, hA, h2, h3⟩⟩
  · rw [show e + 1 - 1 = e by omega]; omega
  · rw [show e + 1 - 1 = e by omega]; exact h7
theorem zTK.stop {N : Mem} {c x j : Int} {B q t : Int → Int} {k : Nat} (h : zCH B k j q t) (ht : zTm B t q j (N c 2) (N c 3)) (h2 : ¬ N c 2 = 0) : zTK N c B 0 x := ⟨k, j, q, t, h, Or.inr ⟨rfl, ht, h2⟩⟩
theorem zPS.r1 {B t q q2 t2 : Int → Int} {j r fk fp e : Int} (h : zPS B t q j r fk fp e q2 t2) (hr : r = 1) : zPS B t q j 1 fk fp e q2 t2 := by subst hr; exact h
theorem zPS.r0 {B t q q2 t2 : Int → Int} {j r fk fp e : Int} (h : zPS B t q j r fk fp e q2 t2) (hr : r = 0) : zPS B t q j 0 fk fp e q2 t2 := by subst hr; exact h
theorem zPS.f {B t q q2 t2 : Int → Int} {j fk fp e : Int} (h : zPS B t q j 0 fk fp e q2 t2) : ¬ fk = 0 := by
  have en : ∀ {e z : Int}, zEN B e z 0 fk fp → ¬ fk = 0 := fun h => by
    unfold zEN at h
    rcases h with h | h | h | h <;> omega
  rcases h with ⟨a0, a1, a2, a3, a4, a5⟩ | ⟨a0, a2, a3, a4, a5⟩ | ⟨a0, a1, a2, ⟨s, a3, a4⟩, a5⟩ | ⟨a0, a2, ⟨y, a3, a4⟩, a5⟩ | ⟨a0, a1, a2, a3⟩
  · rcases a2 with z | z
    · exact z.2.f
    · exact en z.2
  · rcases a2 with z | z
    · exact z.2.f
    · exact en z.2
  · obtain ⟨k, c1, c2, c3⟩ := a3
    unfold SRs at c3
    rcases c3 with c | c | c | c | c <;> omega
  · rcases a3 with z | z
    · exact z.2.f
    · exact en z.2
  · omega
/-- the class's checker that was read, with what it comes to -/
def zFIN (N : Mem) (c : Int) (B : Int → Int) (r : Int) : Prop := ∃ q t, zOUT B (N c 2) (N c 3) q t ∧ ((r = 1 ∧ N c 2 = 0 ∧ CQ N c q ∧ CA N c q) ∨ (r = 0 ∧ ¬ N c 2 = 0))
theorem CQ.fr {L : List (Nat × Int)} {M N : Mem} {c : Int} {q : Int → Int} (h : CQ M c q) (hI : Inv false M) (hk : kd c = 17) (hF : Fr L M N) (hL : (!(fin L 17 0) && L.all (fun p => !(p.1 == 12))) = true) : CQ N c q := by
  simp only [Bool.and_eq_true, Bool.not_eq_true'] at hL
  unfold CQ; rw [hF.e hk 0 hL.1, hF.fn (Inv.r hI hk rfl 0 rfl rfl) hL.2]; exact h
theorem CA.fr {L : List (Nat × Int)} {M N : Mem} {c : Int} {q : Int → Int} (h : CA M c q) (hI : Inv false M) (hk : kd c = 17) (hF : Fr L M N) (hL : (!(fin L 17 0) && L.all (fun p => !(p.1 == 12)) && L.all (fun p => !(IK p.1))) = true) : CA N c q := by
  simp only [Bool.and_eq_true, Bool.not_eq_true'] at hL
  have km := Inv.r hI hk rfl 0 rfl rfl
  unfold CA; rw [hF.e hk 0 hL.1.1, hF.fn km hL.1.2]
  exact ⟨fun a => (h.1 a).fr hI (Inv.r hI km rfl 4 rfl rfl) hF (by simpa using hL.2), fun a => (h.2 a).fr hI (Inv.r hI km rfl 5 rfl rfl) hF (by simpa using hL.2)⟩
/-! what is done to a checker, by its row of numbers -/
def zCOk (c p l s g a2 a3 a4 a5 : Int) : Prop := 0 ≤ a2 ∧ a2 < l ∧ 0 ≤ a3 ∧ a3 < s ∧ 0 ≤ a4 ∧ a4 < s ∧ ((a2 < c ∧ 0 ≤ a5 ∧ a5 < g) ∨ (c ≤ a2 ∧ a2 < p ∧ (a5 = -1 ∨ (0 ≤ a5 ∧ a5 < g))) ∨ (c ≤ a2 ∧ p ≤ a2 ∧ a5 = -1))
def zCO (c p l s g a2 a3 a4 a5 r : Int) : Prop := (r = 1 ∧ zCOk c p l s g a2 a3 a4 a5) ∨ (r = 0 ∧ ¬ zCOk c p l s g a2 a3 a4 a5)
theorem zCO.y {c p l s g a2 a3 a4 a5 r : Int} (h : zCO c p l s g a2 a3 a4 a5 r) (hr : ¬ r = 0) : zCOk c p l s g a2 a3 a4 a5 := by
  rcases h with h | h
  · exact h.2
  · exact absurd h.1 hr
theorem zCO.n {c p l s g a2 a3 a4 a5 r : Int} (h : zCO c p l s g a2 a3 a4 a5 r) (hr : r = 0) : ¬ zCOk c p l s g a2 a3 a4 a5 := by
  rcases h with h | h
  · exact absurd h.1 (by omega)
  · exact h.2
def zADk (q : Int → Int) (a1 a2 a3 a4 a5 : Int) : Prop := 0 ≤ a1 ∧ a1 < q 3 ∧ zCOk (q 0) (q 0 + q 1) (q 0 + q 1 + q 2) (q (85 * a1 + 100)) (q (85 * a1 + 101)) a2 a3 a4 a5
def zAD (q : Int → Int) (a1 a2 a3 a4 a5 r : Int) (q2 : Int → Int) : Prop :=
  (¬ zADk q a1 a2 a3 a4 a5 ∧ r = -1 ∧ q2 = q) ∨ (zADk q a1 a2 a3 a4 a5 ∧ 20 ≤ q (85 * a1 + 104) ∧ r = -1 ∧ q2 = q) ∨ (zADk q a1 a2 a3 a4 a5 ∧ q (85 * a1 + 104) ≤ 19 ∧ rq q (85 * a1 + 100) a2 a3 a4 a5 = 1 ∧ r = -1 ∧ q2 = q) ∨ (zADk q a1 a2 a3 a4 a5 ∧ q (85 * a1 + 104) ≤ 19 ∧ rq q (85 * a1 + 100) a2 a3 a4 a5 = 0 ∧ r = q (85 * a1 + 104) + 1 ∧ q2 = uprul q (85 * a1 + 100) a2 a3 a4 a5)
theorem zAD.u {q q2 q2' : Int → Int} {a1 a2 a3 a4 a5 r r' : Int} (h : zAD q a1 a2 a3 a4 a5 r q2) (h' : zAD q a1 a2 a3 a4 a5 r' q2') : r = r' ∧ q2 = q2' := by
  rcases h with ⟨a, b, c⟩ | ⟨a, b, c, d⟩ | ⟨a, b, c, d, e⟩ | ⟨a, b, c, d, e⟩ <;> rcases h' with ⟨a', b', c'⟩ | ⟨a', b', c', d'⟩ | ⟨a', b', c', d', e'⟩ | ⟨a', b', c', d', e'⟩
  · exact ⟨b.trans b'.symm, c.trans c'.symm⟩
  · exact absurd a' a
  · exact absurd a' a
  · exact absurd a' a
  · exact absurd a a'
  · exact ⟨c.trans c'.symm, d.trans d'.symm⟩
  · omega
  · omega
  · exact absurd a a'
  · omega
  · exact ⟨d.trans d'.symm, e.trans e'.symm⟩
  · omega
  · exact absurd a a'
  · omega
  · omega
  · exact ⟨d.trans d'.symm, e.trans e'.symm⟩
def zdrop (q : Int → Int) (b k : Int) : Int → Int := fun i => if i = b + 4 then q (b + 4) - 1 else if b + 5 + 4 * k ≤ i ∧ i < b + 1 + 4 * q (b + 4) then q (i + 4) else q i
def zDR (q : Int → Int) (a1 a2 r : Int) (q2 : Int → Int) : Prop := ((0 ≤ a1 ∧ a1 < q 3 ∧ 0 ≤ a2 ∧ a2 < q (85 * a1 + 104)) ∧ r = q (85 * a1 + 104) - 1 ∧ q2 = zdrop q (85 * a1 + 100) a2) ∨ (¬ (0 ≤ a1 ∧ a1 < q 3 ∧ 0 ≤ a2 ∧ a2 < q (85 * a1 + 104)) ∧ r = -1 ∧ q2 = q)
theorem zDR.u {q q2 q2' : Int → Int} {a1 a2 r r' : Int} (h : zDR q a1 a2 r q2) (h' : zDR q a1 a2 r' q2') : r = r' ∧ q2 = q2' := by
  rcases h with ⟨a, b, c⟩ | ⟨a, b, c⟩ <;> rcases h' with ⟨a', b', c'⟩ | ⟨a', b', c'⟩
  · exact ⟨b.trans b'.symm, c.trans c'.symm⟩
  · exact absurd a a'
  · exact absurd a' a
  · exact ⟨b.trans b'.symm, c.trans c'.symm⟩
/-- a set of states with one more, or one less -/
def zST (q : Int → Int) (w a1 a2 a3 r : Int) (q2 : Int → Int) : Prop := ((0 ≤ a1 ∧ a1 < q 3 ∧ 0 ≤ a2 ∧ a2 < q (85 * a1 + 100) ∧ ¬ zand (zshr (q (85 * a1 + 100 + w)) a2) 1 = a3) ∧ r = zxor (q (85 * a1 + 100 + w)) (zshl 1 a2) ∧ q2 = upk q (85 * a1 + 100 + w) (zxor (q (85 * a1 + 100 + w)) (zshl 1 a2))) ∨ (¬ (0 ≤ a1 ∧ a1 < q 3 ∧ 0 ≤ a2 ∧ a2 < q (85 * a1 + 100) ∧ ¬ zand (zshr (q (85 * a1 + 100 + w)) a2) 1 = a3) ∧ r = -1 ∧ q2 = q)
theorem zST.u {q q2 q2' : Int → Int} {w a1 a2 a3 r r' : Int} (h : zST q w a1 a2 a3 r q2) (h' : zST q w a1 a2 a3 r' q2') : r = r' ∧ q2 = q2' := by
  rcases h with ⟨a, b, c⟩ | ⟨a, b, c⟩ <;> rcases h' with ⟨a', b', c'⟩ | ⟨a', b', c'⟩
  · exact ⟨b.trans b'.symm, c.trans c'.symm⟩
  · exact absurd a a'
  · exact absurd a' a
  · exact ⟨b.trans b'.symm, c.trans c'.symm⟩
theorem bit_all : ∀ s : Nat, s < 8 → ∀ k : Nat, k < 3 → (zand (zshr (s : Int) (k : Int)) 1 = 1 ∧ zor (s : Int) (zshl 1 (k : Int)) = s ∧ ¬ zand (s : Int) (zxor (zshl 1 (k : Int)) (-1)) = s ∧ zand (s : Int) (zxor (zshl 1 (k : Int)) (-1)) = zxor (s : Int) (zshl 1 (k : Int))) ∨ (zand (zshr (s : Int) (k : Int)) 1 = 0 ∧ ¬ zor (s : Int) (zshl 1 (k : Int)) = s ∧ zor (s : Int) (zshl 1 (k : Int)) = zxor (s : Int) (zshl 1 (k : Int)) ∧ zand (s : Int) (zxor (zshl 1 (k : Int)) (-1)) = s) := by decide +kernel
theorem bit_u {s k : Int} (hs : 0 ≤ s ∧ s ≤ 7) (hk : 0 ≤ k ∧ k ≤ 2) : (zand (zshr s k) 1 = 1 ∧ zor s (zshl 1 k) = s ∧ ¬ zand s (zxor (zshl 1 k) (-1)) = s ∧ zand s (zxor (zshl 1 k) (-1)) = zxor s (zshl 1 k)) ∨ (zand (zshr s k) 1 = 0 ∧ ¬ zor s (zshl 1 k) = s ∧ zor s (zshl 1 k) = zxor s (zshl 1 k) ∧ zand s (zxor (zshl 1 k) (-1)) = s) := by
  have h := bit_all s.toNat (by omega) k.toNat (by omega)
  rw [show ((s.toNat : Nat) : Int) = s by omega, show ((k.toNat : Nat) : Int) = k by omega] at h
  exact h
/-- one automaton as another one -/
def zcopy (q : Int → Int) (a o : Int) : Int → Int := fun i => if 85 * o + 100 ≤ i ∧ i < 85 * o + 185 then q (i - 85 * o + 85 * a) else q i
def zCY (q : Int → Int) (a1 a2 r : Int) (q2 : Int → Int) : Prop := ((0 ≤ a1 ∧ a1 < q 3 ∧ 0 ≤ a2 ∧ a2 < q 3 ∧ ¬ a1 = a2) ∧ r = 1 ∧ q2 = zcopy q a1 a2) ∨ (¬ (0 ≤ a1 ∧ a1 < q 3 ∧ 0 ≤ a2 ∧ a2 < q 3 ∧ ¬ a1 = a2) ∧ r = 0 ∧ q2 = q)
theorem zCY.u {q q2 q2' : Int → Int} {a1 a2 r r' : Int} (h : zCY q a1 a2 r q2) (h' : zCY q a1 a2 r' q2') : r = r' ∧ q2 = q2' := by
  rcases h with ⟨a, b, c⟩ | ⟨a, b, c⟩ <;> rcases h' with ⟨a', b', c'⟩ | ⟨a', b', c'⟩
  · exact ⟨b.trans b'.symm, c.trans c'.symm⟩
  · exact absurd a a'
  · exact absurd a' a
  · exact ⟨b.trans b'.symm, c.trans c'.symm⟩
/-- an automaton without one of its rules -/
theorem AT0.drop {M N : Mem} {x b k : Int} {q : Int → Int} (h : AT0 M x q b) (hb : 0 < b) (hk : 0 ≤ k ∧ k < q (b + 4)) (h0 : N x 0 = M x 0) (h1 : N x 1 = M x 1) (h2 : N x 2 = M x 2) (h3 : N x 3 = M x 3) (h4 : N x 4 = M x 4 - 1) (h5 : N x 5 = M x 5) (f6 : N x 6 = M x 6) (f7 : N x 7 = M x 7) (f8 : N x 8 = M x 8) (f9 : N x 9 = M x 9) (u6 : ∀ i, 0 ≤ i → i < q (b + 4) - 1 → N (M x 6) i = if k ≤ i then M (M x 6) (i + 1) else M (M x 6) i) (u7 : ∀ i, 0 ≤ i → i < q (b + 4) - 1 → N (M x 7) i = if k ≤ i then M (M x 7) (i + 1) else M (M x 7) i) (u8 : ∀ i, 0 ≤ i → i < q (b + 4) - 1 → N (M x 8) i = if k ≤ i then M (M x 8) (i + 1) else M (M x 8) i) (u9 : ∀ i, 0 ≤ i → i < q (b + 4) - 1 → N (M x 9) i = if k ≤ i then M (M x 9) (i + 1) else M (M x 9) i) : AT0 N x (zdrop q b k) b := by
  obtain ⟨a0, a1, a2, a3, a4, a5, a6⟩ := h
  have e : ∀ i, i < b + 4 → zdrop q b k i = q i := fun i hi => by unfold zdrop; rw [if_neg (by omega), if_neg (by omega)]
  have e4 : zdrop q b k (b + 4) = q (b + 4) - 1 := by unfold zdrop; rw [if_pos rfl]
  refine ⟨by rw [e b (by omega), h0]; exact a0, by rw [e (b + 1) (by omega), h1]; exact a1, by rw [e (b + 2) (by omega), h2]; exact a2, by rw [e (b + 3) (by omega), h3]; exact a3, by rw [e4, h4, a4], by rw [e 0 (by omega), h5]; exact a5, fun i hi hl => ?_⟩
  rw [e4] at hl
  rw [f6, f7, f8, f9, u6 i hi hl, u7 i hi hl, u8 i hi hl, u9 i hi hl]
  by_cases hx : k ≤ i
  · have g := a6 (i + 1) (by omega) (by omega)
    have d : ∀ d : Int, 5 ≤ d → d ≤ 8 → zdrop q b k (b + d + 4 * i) = q (b + d + 4 * (i + 1)) := fun d h1 h2 => by
      unfold zdrop; rw [if_neg (by omega), if_pos (by omega), show b + d + 4 * i + 4 = b + d + 4 * (i + 1) by omega]
    rw [if_pos hx, if_pos hx, if_pos hx, if_pos hx, d 5 (by decide) (by decide), d 6 (by decide) (by decide), d 7 (by decide) (by decide), d 8 (by decide) (by decide)]
    exact g
  · have g := a6 i hi (by omega)
    have d : ∀ d : Int, 5 ≤ d → d ≤ 8 → zdrop q b k (b + d + 4 * i) = q (b + d + 4 * i) := fun d h1 h2 => by
      unfold zdrop; rw [if_neg (by omega), if_neg (by omega)]
    rw [if_neg hx, if_neg hx, if_neg hx, if_neg hx, d 5 (by decide) (by decide), d 6 (by decide) (by decide), d 7 (by decide) (by decide), d 8 (by decide) (by decide)]
    exact g
theorem AT.drop {M N : Mem} {x b k : Int} {q : Int → Int} (h : AT M x q b) (hb : 0 < b) (hk : 0 ≤ k ∧ k < q (b + 4)) (h0 : N x 0 = M x 0) (h1 : N x 1 = M x 1) (h2 : N x 2 = M x 2) (h3 : N x 3 = M x 3) (h4 : N x 4 = M x 4 - 1) (h5 : N x 5 = M x 5) (f6 : N x 6 = M x 6) (f7 : N x 7 = M x 7) (f8 : N x 8 = M x 8) (f9 : N x 9 = M x 9) (u6 : ∀ i, 0 ≤ i → i < q (b + 4) - 1 → N (M x 6) i = if k ≤ i then M (M x 6) (i + 1) else M (M x 6) i) (u7 : ∀ i, 0 ≤ i → i < q (b + 4) - 1 → N (M x 7) i = if k ≤ i then M (M x 7) (i + 1) else M (M x 7) i) (u8 : ∀ i, 0 ≤ i → i < q (b + 4) - 1 → N (M x 8) i = if k ≤ i then M (M x 8) (i + 1) else M (M x 8) i) (u9 : ∀ i, 0 ≤ i → i < q (b + 4) - 1 → N (M x 9) i = if k ≤ i then M (M x 9) (i + 1) else M (M x 9) i) (hw : zAW N x (N x 4)) : AT N x (zdrop q b k) b := ⟨AT0.drop h.1 hb hk h0 h1 h2 h3 h4 h5 f6 f7 f8 f9 u6 u7 u8 u9, hw⟩
/-- the cells of one automaton of a setting -/
def zRG (s a : Int) : Int → Prop := fun y => s + 1 + 7 * a ≤ y ∧ y < s + 8 + 7 * a ∧ s < y ∧ y < s + 15
theorem zSN.cg {M N : Mem} {s : Int} {q q' : Int → Int} (h : zSN M s q) (e : N s = M s) (h0 : q' 0 = q 0) (h1 : q' 1 = q 1) (h2 : q' 2 = q 2) (h3 : q' 3 = q 3) : zSN N s q' := by
  unfold zSN at h ⊢
  rw [e, h0, h1, h2, h3]; exact h
theorem zSU.set {M N : Mem} {s a x b : Int} {q q' : Int → Int} (h : zSU M s q) (ha : 0 ≤ a ∧ a ≤ 1 ∧ a < q 3) (hb : b = 85 * a + 100) (hx : x = s + 1 + 7 * a) (hZ : FZ M) (hI : Inv false M) (hm : kd s = 12) (hC : Cf (zRG s a) M N) (e : N s = M s) (hn : AT N x q' b) (h0 : q' 0 = q 0) (h3 : q' 3 = q 3) (ho : ∀ i, 100 ≤ i → i < 270 → (i < b ∨ b + 85 ≤ i) → q' i = q i) (hV : zQV q) : zSU N s q' := by
  obtain ⟨v1, v2, v3, v4, v5, v6⟩ := hV
  have z := hZ.2.1 s hm
  have k4 := Inv.r hI hm rfl 4 rfl rfl
  have k5 := Inv.r hI hm rfl 5 rfl rfl
  subst hb hx
  unfold zSU
  rw [h3, e]
  rcases (by omega : a = 0 ∨ a = 1) with e0 | e0 <;> subst e0
  · refine ⟨fun _ => ?_, fun c => ?_⟩
    · rw [z.1, show s + 1 = s + 1 + 7 * 0 by omega]; exact hn
    · exact AT.cg (AT.keep (h.2 c) hZ hI k5 hC (fun y a1 a2 a3 => by have a4 := a3.1; have a5 := a3.2.1; omega)) h0 (fun i a1 a2 => ho _ (by omega) (by omega) (by omega)) (by exact v6)
  · refine ⟨fun c => ?_, fun _ => ?_⟩
    · exact AT.cg (AT.keep (h.1 c) hZ hI k4 hC (fun y a1 a2 a3 => by have a4 := a3.1; have a5 := a3.2.1; omega)) h0 (fun i a1 a2 => ho _ (by omega) (by omega) (by omega)) (by exact v4)
    · rw [z.2.1, show s + 8 = s + 1 + 7 * 1 by omega]; exact hn
theorem zSU.fr {L : List (Nat × Int)} {M N : Mem} {s : Int} {q : Int → Int} (h : zSU M s q) (hI : Inv false M) (hm : kd s = 12) (hF : Fr L M N) (hL : (L.all (fun p => !(p.1 == 12)) && L.all (fun p => !(IK p.1))) = true) : zSU N s q := by
  simp only [Bool.and_eq_true] at hL
  unfold zSU; rw [hF.fn hm hL.1]
  exact ⟨fun a => (h.1 a).fr hI (Inv.r hI hm rfl 4 rfl rfl) hF hL.2, fun a => (h.2 a).fr hI (Inv.r hI hm rfl 5 rfl rfl) hF hL.2⟩
theorem zSN.fr {L : List (Nat × Int)} {M N : Mem} {s : Int} {q : Int → Int} (h : zSN M s q) (hm : kd s = 12) (hF : Fr L M N) (hL : L.all (fun p => !(p.1 == 12)) = true) : zSN N s q := by
  unfold zSN; rw [hF.fn hm hL]; exact h
/-- another setting is as it was -/
theorem zSU.keep {M N : Mem} {s : Int} {S : Int → Prop} {q : Int → Int} (h : zSU M s q) (hZ : FZ M) (hI : Inv false M) (hm : kd s = 12) (hC : Cf S M N) (hS : ∀ y, s ≤ y → y < s + 15 → ¬ S y) : zSU N s q := by
  have z := hZ.2.1 s hm
  have e : N s = M s := hC s (by rw [hm]; rfl) (hS s (by omega) (by omega))
  unfold zSU; rw [e]
  exact ⟨fun a => AT.keep (h.1 a) hZ hI (Inv.r hI hm rfl 4 rfl rfl) hC (fun y a1 a2 => hS y (by omega) (by omega)), fun a => AT.keep (h.2 a) hZ hI (Inv.r hI hm rfl 5 rfl rfl) hC (fun y a1 a2 => hS y (by omega) (by omega))⟩
theorem zSN.keep {M N : Mem} {s : Int} {S : Int → Prop} {q : Int → Int} (h : zSN M s q) (hm : kd s = 12) (hC : Cf S M N) (hS : ¬ S s) : zSN N s q := by
  have e : N s = M s := hC s (by rw [hm]; rfl) hS
  unfold zSN; rw [e]; exact h
/-- two settings lie apart -/
theorem set_ap {s s' : Int} (h : kd s = 12) (h' : kd s' = 12) (hn : ¬ s = s') : s + 19 ≤ s' ∨ s' + 19 ≤ s := by
  rcases kd_set h with e | e | e | e | e <;> rcases kd_set h' with e' | e' | e' | e' | e' <;> omega
