theorem zTB.of {N M : Mem} {c a n : Int} {B : Int → Int} (h : zTB M a n B) (e4 : N c 4 = a) (e5 : N c 5 = n) (et : ∀ i, N a i = M a i) : TB N c B := fun i => by
  rw [e5, e4, et i]; exact h i
def zTKs (N : Mem) (c : Int) (B : Int → Int) (g x j : Int) (q t : Int → Int) : Prop := (g = 1 ∧ x ≤ tq B (j - 1) ∧ N c 7 + N c 8 = tq B (j - 1) ∧ CQ N c q ∧ NU N c B t q ∧ CA N c q ∧ N c 2 = 0 ∧ N c 3 = -1) ∨ (g = 0 ∧ zTm B t q j (N c 2) (N c 3) ∧ ¬ N c 2 = 0)
theorem zTKs.n {N : Mem} {c g x j : Int} {B q t : Int → Int} (h : zTKs N c B g x j q t) (hg : g = 0) : zTm B t q j (N c 2) (N c 3) ∧ ¬ N c 2 = 0 := by
  rcases h with h | h
  · exact absurd h.1 (by omega)
  · exact h.2
theorem CQ.fr {L : List (Nat × Int)} {M N : Mem} {c : Int} {q : Int → Int} (h : CQ M c q) (hI : Inv false M) (hk : kd c = 17) (hF : Fr L M N) (hL : (!(fin L 17 0) && L.all (fun p => !(p.1 == 12))) = true) : CQ N c q := by
  simp only [Bool.and_eq_true, Bool.not_eq_true'] at hL
  unfold CQ; rw [hF.e hk 0 hL.1, hF.fn (Inv.r hI hk rfl 0 rfl rfl) hL.2]; exact h
theorem CA.fr {L : List (Nat × Int)} {M N : Mem} {c : Int} {q : Int → Int} (h : CA M c q) (hI : Inv false M) (hk : kd c = 17) (hF : Fr L M N) (hL : (!(fin L 17 0) && L.all (fun p => !(p.1 == 12)) && L.all (fun p => !(IK p.1))) = true) : CA N c q := by
  simp only [Bool.and_eq_true, Bool.not_eq_true'] at hL
  have km := Inv.r hI hk rfl 0 rfl rfl
  unfold CA; rw [hF.e hk 0 hL.1.1, hF.fn km hL.1.2]
  exact ⟨fun a => (h.1 a).fr hI (Inv.r hI km rfl 4 rfl rfl) hF (by simpa using hL.2), fun a => (h.2 a).fr hI (Inv.r hI km rfl 5 rfl rfl) hF (by simpa using hL.2)⟩
/-! what is done to a checker, by its row of numbers -/
def zCOk (c p l s g a2 a3 a4 a5 : Int) : Prop := 0 ≤ a2 ∧ a2 < l ∧ 0 ≤ a3 ∧ a3 < s ∧ 0 ≤ a4 ∧ a4 < s ∧ ((a2 < c ∧ 0 ≤ a5 ∧ a5 < g) ∨ (c ≤ a2 ∧ a2 < p ∧ (a5 = -1 ∨ (0 ≤ a5 ∧ a5 < g))) ∨ (c ≤ a2 ∧ p ≤ a2 ∧ a5 = -1))
def zCO (c p l s g a2 a3 a4 a5 r : Int) : Prop := (r = 1 ∧ zCOk c p l s g a2 a3 a4 a5) ∨ (r = 0 ∧ ¬ zCOk c p l s g a2 a3 a4 a5)
theorem zCO.n {c p l s g a2 a3 a4 a5 r : Int} (h : zCO c p l s g a2 a3 a4 a5 r) (hr : r = 0) : ¬ zCOk c p l s g a2 a3 a4 a5 := by
  rcases h with h | h
  · exact absurd h.1 (by omega)
  · exact h.2
def zADk (q : Int → Int) (a1 a2 a3 a4 a5 : Int) : Prop := 0 ≤ a1 ∧ a1 < q 3 ∧ zCOk (q 0) (q 0 + q 1) (q 0 + q 1 + q 2) (q (85 * a1 + 100)) (q (85 * a1 + 101)) a2 a3 a4 a5
def zAD (q : Int → Int) (a1 a2 a3 a4 a5 r : Int) (q2 : Int → Int) : Prop :=
  (¬ zADk q a1 a2 a3 a4 a5 ∧ r = -1 ∧ q2 = q) ∨ (zADk q a1 a2 a3 a4 a5 ∧ 20 ≤ q (85 * a1 + 104) ∧ r = -1 ∧ q2 = q) ∨ (zADk q a1 a2 a3 a4 a5 ∧ q (85 * a1 + 104) ≤ 19 ∧ rq q (85 * a1 + 100) a2 a3 a4 a5 = 1 ∧ r = -1 ∧ q2 = q) ∨ (zADk q a1 a2 a3 a4 a5 ∧ q (85 * a1 + 104) ≤ 19 ∧ rq q (85 * a1 + 100) a2 a3 a4 a5 = 0 ∧ r = q (85 * a1 + 104) + 1 ∧ q2 = uprul q (85 * a1 + 100) a2 a3 a4 a5)
theorem zAD.u {q q2 q2' : Int → Int} {a1 a2 a3 a4 a5 r r' : Int} (h : zAD q a1 a2 a3 a4 a5 r q2) (h' : zAD q a1 a2 a3 a4 a5 r' q2') : r = r' ∧ q2 = q2' := by
  rcases h with ⟨a, b, c⟩ | ⟨a, b, c, d⟩ | ⟨a, b, c, d, e⟩ | ⟨a, b, c, d, e⟩ <;> rcases h' with ⟨a', b', c'⟩ | ⟨a', b', c', d'⟩ | ⟨a', b', c', d', e'⟩ | ⟨a', b', c', d', e'⟩
  · exact ⟨b.trans b'.symm, c.trans c'.symm⟩
  · exact absurd a' a
  · exact absurd a' a
  · exact absurd a' a
  · exact absurd a a'
  · exact ⟨c.trans c'.symm, d.trans d'.symm⟩
  · omega
  · omega
  · exact absurd a a'
  · omega
  · exact ⟨d.trans d'.symm, e.trans e'.symm⟩
  · omega
  · exact absurd a a'
  · omega
  · omega
  · exact ⟨d.trans d'.symm, e.trans e'.symm⟩
def zdrop (q : Int → Int) (b k : Int) : Int → Int := fun i => if i = b + 4 then q (b + 4) - 1 else if b + 5 + 4 * k ≤ i ∧ i < b + 1 + 4 * q (b + 4) then q (i + 4) else q i
def zDR (q : Int → Int) (a1 a2 r : Int) (q2 : Int → Int) : Prop := ((0 ≤ a1 ∧ a1 < q 3 ∧ 0 ≤ a2 ∧ a2 < q (85 * a1 + 104)) ∧ r = q (85 * a1 + 104) - 1 ∧ q2 = zdrop q (85 * a1 + 100) a2) ∨ (¬ (0 ≤ a1 ∧ a1 < q 3 ∧ 0 ≤ a2 ∧ a2 < q (85 * a1 + 104)) ∧ r = -1 ∧ q2 = q)
theorem zDR.u {q q2 q2' : Int → Int} {a1 a2 r r' : Int} (h : zDR q a1 a2 r q2) (h' : zDR q a1 a2 r' q2') : r = r' ∧ q2 = q2' := by
  rcases h with ⟨a, b, c⟩ | ⟨a, b, c⟩ <;> rcases h' with ⟨a', b', c'⟩ | ⟨a', b', c'⟩
  · exact ⟨b.trans b'.symm, c.trans c'.symm⟩
  · exact absurd a a'
  · exact absurd a' a
  · exact ⟨b.trans b'.symm, c.trans c'.symm⟩
/-- a set of states with one more, or one less -/
def zST (q : Int → Int) (w a1 a2 a3 r : Int) (q2 : Int → Int) : Prop := ((0 ≤ a1 ∧ a1 < q 3 ∧ 0 ≤ a2 ∧ a2 < q (85 * a1 + 100) ∧ ¬ zand (zshr (q (85 * a1 + 100 + w)) a2) 1 = a3) ∧ r = zxor (q (85 * a1 + 100 + w)) (zshl 1 a2) ∧ q2 = upk q (85 * a1 + 100 + w) (zxor (q (85 * a1 + 100 + w)) (zshl 1 a2))) ∨ (¬ (0 ≤ a1 ∧ a1 < q 3 ∧ 0 ≤ a2 ∧ a2 < q (85 * a1 + 100) ∧ ¬ zand (zshr (q (85 * a1 + 100 + w)) a2) 1 = a3) ∧ r = -1 ∧ q2 = q)
theorem zST.u {q q2 q2' : Int → Int} {w a1 a2 a3 r r' : Int} (h : zST q w a1 a2 a3 r q2) (h' : zST q w a1 a2 a3 r' q2') : r = r' ∧ q2 = q2' := by
  rcases h with ⟨a, b, c⟩ | ⟨a, b, c⟩ <;> rcases h' with ⟨a', b', c'⟩ | ⟨a', b', c'⟩
  · exact ⟨b.trans b'.symm, c.trans c'.symm⟩
  · exact absurd a a'
  · exact absurd a' a
  · exact ⟨b.trans b'.symm, c.trans c'.symm⟩
/-- one automaton as another one -/
def zcopy (q : Int → Int) (a o : Int) : Int → Int := fun i => if 85 * o + 100 ≤ i ∧ i < 85 * o + 185 then q (i - 85 * o + 85 * a) else q i
def zCY (q : Int → Int) (a1 a2 r : Int) (q2 : Int → Int) : Prop := ((0 ≤ a1 ∧ a1 < q 3 ∧ 0 ≤ a2 ∧ a2 < q 3 ∧ ¬ a1 = a2) ∧ r = 1 ∧ q2 = zcopy q a1 a2) ∨ (¬ (0 ≤ a1 ∧ a1 < q 3 ∧ 0 ≤ a2 ∧ a2 < q 3 ∧ ¬ a1 = a2) ∧ r = 0 ∧ q2 = q)
theorem zCY.u {q q2 q2' : Int → Int} {a1 a2 r r' : Int} (h : zCY q a1 a2 r q2) (h' : zCY q a1 a2 r' q2') : r = r' ∧ q2 = q2' := by
  rcases h with ⟨a, b, c⟩ | ⟨a, b, c⟩ <;> rcases h' with ⟨a', b', c'⟩ | ⟨a', b', c'⟩
  · exact ⟨b.trans b'.symm, c.trans c'.symm⟩
  · exact absurd a a'
  · exact absurd a' a
  · exact ⟨b.trans b'.symm, c.trans c'.symm⟩
/-- the cells of one automaton of a setting -/
def zRG (s a : Int) : Int → Prop := fun y => s + 1 + 7 * a ≤ y ∧ y < s + 8 + 7 * a ∧ s < y ∧ y < s + 15
theorem zSN.cg {M N : Mem} {s : Int} {q q' : Int → Int} (h : zSN M s q) (e : N s = M s) (h0 : q' 0 = q 0) (h1 : q' 1 = q 1) (h2 : q' 2 = q 2) (h3 : q' 3 = q 3) : zSN N s q' := by
  unfold zSN at h ⊢
  rw [e, h0, h1, h2, h3]; exact h
theorem zSU.set {M N : Mem} {s a x b : Int} {q q' : Int → Int} (h : zSU M s q) (ha : 0 ≤ a ∧ a ≤ 1 ∧ a < q 3) (hb : b = 85 * a + 100) (hx : x = s + 1 + 7 * a) (hZ : FZ M) (hI : Inv false M) (hm : kd s = 12) (hC : Cf (zRG s a) M N) (e : N s = M s) (hn : AT N x q' b) (h0 : q' 0 = q 0) (h3 : q' 3 = q 3) (ho : ∀ i, 100 ≤ i → i < 270 → (i < b ∨ b + 85 ≤ i) → q' i = q i) (hV : zQV q) : zSU N s q' := by
  obtain ⟨v1, v2, v3, v4, v5, v6⟩ := hV
  have z := hZ.2.1 s hm
  have k4 := Inv.r hI hm rfl 4 rfl rfl
  have k5 := Inv.r hI hm rfl 5 rfl rfl
  subst hb hx
  unfold zSU
  rw [h3, e]
  rcases (by omega : a = 0 ∨ a = 1) with e0 | e0 <;> subst e0
  · refine ⟨fun _ => ?_, fun c => ?_⟩
    · rw [z.1, show s + 1 = s + 1 + 7 * 0 by omega]; exact hn
    · exact AT.cg (AT.keep (h.2 c) hZ hI k5 hC (fun y a1 a2 a3 => by have a4 := a3.1; have a5 := a3.2.1; omega)) h0 (fun i a1 a2 => ho _ (by omega) (by omega) (by omega)) (by exact v6)
  · refine ⟨fun c => ?_, fun _ => ?_⟩
    · exact AT.cg (AT.keep (h.1 c) hZ hI k4 hC (fun y a1 a2 a3 => by have a4 := a3.1; have a5 := a3.2.1; omega)) h0 (fun i a1 a2 => ho _ (by omega) (by omega) (by omega)) (by exact v4)
    · rw [z.2.1, show s + 8 = s + 1 + 7 * 1 by omega]; exact hn
theorem zSU.fr {L : List (Nat × Int)} {M N : Mem} {s : Int} {q : Int → Int} (h : zSU M s q) (hI : Inv false M) (hm : kd s = 12) (hF : Fr L M N) (hL : (L.all (fun p => !(p.1 == 12)) && L.all (fun p => !(IK p.1))) = true) : zSU N s q := by
  simp only [Bool.and_eq_true] at hL
  unfold zSU; rw [hF.fn hm hL.1]
  exact ⟨fun a => (h.1 a).fr hI (Inv.r hI hm rfl 4 rfl rfl) hF hL.2, fun a => (h.2 a).fr hI (Inv.r hI hm rfl 5 rfl rfl) hF hL.2⟩
theorem zSN.fr {L : List (Nat × Int)} {M N : Mem} {s : Int} {q : Int → Int} (h : zSN M s q) (hm : kd s = 12) (hF : Fr L M N) (hL : L.all (fun p => !(p.1 == 12)) = true) : zSN N s q := by
  unfold zSN; rw [hF.fn hm hL]; exact h
/-- another setting is as it was -/
theorem zSU.keep {M N : Mem} {s : Int} {S : Int → Prop} {q : Int → Int} (h : zSU M s q) (hZ : FZ M) (hI : Inv false M) (hm : kd s = 12) (hC : Cf S M N) (hS : ∀ y, s ≤ y → y < s + 15 → ¬ S y) : zSU N s q := by
  have z := hZ.2.1 s hm
  have e : N s = M s := hC s (by rw [hm]; rfl) (hS s (by omega) (by omega))
  unfold zSU; rw [e]
  exact ⟨fun a => AT.keep (h.1 a) hZ hI (Inv.r hI hm rfl 4 rfl rfl) hC (fun y a1 a2 => hS y (by omega) (by omega)), fun a => AT.keep (h.2 a) hZ hI (Inv.r hI hm rfl 5 rfl rfl) hC (fun y a1 a2 => hS y (by omega) (by omega))⟩
theorem zSN.keep {M N : Mem} {s : Int} {S : Int → Prop} {q : Int → Int} (h : zSN M s q) (hm : kd s = 12) (hC : Cf S M N) (hS : ¬ S s) : zSN N s q := by
  have e : N s = M s := hC s (by rw [hm]; rfl) hS
  unfold zSN; rw [e]; exact h
