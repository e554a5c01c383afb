/-! words read by an automaton of a row -/
def zst (q : Int → Int) (b l : Int) : Int := zsF (fun k => q (b + 5 + 4 * k)) (fun k => q (b + 6 + 4 * k)) (fun k => q (b + 7 + 4 * k)) (fun k => q (b + 8 + 4 * k)) (q 0) l (q (b + 4)).toNat
def zks (q : Int → Int) (b i : Int) : Int := zkF (fun k => q (b + 5 + 4 * k)) (fun k => q (b + 6 + 4 * k)) (fun k => q (b + 7 + 4 * k)) (fun k => q (b + 8 + 4 * k)) (i / 3) (i % 3) (q (b + 4)).toNat
def zsr (q : Int → Int) (l : Int) : Int := if l < q 0 then 0 else if l < q 0 + q 1 then 1 else 2
theorem zsr.of {q : Int → Int} {l so : Int} (h : (so = 0 ∧ l < q 0) ∨ (so = 1 ∧ ¬ l < q 0 ∧ l < q 0 + q 1) ∨ (so = 2 ∧ ¬ l < q 0 ∧ ¬ l < q 0 + q 1)) : so = zsr q l := by
  unfold zsr
  rcases h with ⟨a, b⟩ | ⟨a, b, c⟩ | ⟨a, b, c⟩
  · rw [if_pos b, a]
  · rw [if_neg b, if_pos c, a]
  · rw [if_neg b, if_neg c, a]
theorem zov.cg {K K' : Int → Int} {c l x : Int} : ∀ n : Nat, (∀ g : Int, 0 ≤ g → g < n → K' (3 * c + g) = K (3 * c + g) ∧ K' (3 * l + g) = K (3 * l + g)) → zov K' c l x n = zov K c l x n
  | 0, _ => rfl
  | n + 1, h => by
    have i := zov.cg (x := x) n (fun g a b => h g a (by omega))
    obtain ⟨a, b⟩ := h (n : Int) (by omega) (by omega)
    unfold zov
    rw [i, a, b]
theorem zse.cg {g st K st' K' : Int → Int} {n n' l l' so so' : Int} (el : l' = l) (es : so' = so) (en : n' = n) (hs : st' l = st l) (hk : so = 1 → 0 < g 6 → ∀ e : Int, 0 ≤ e → e < 3 → K' (3 * g (12 + 3 * (g 6 - 1)) + e) = K (3 * g (12 + 3 * (g 6 - 1)) + e) ∧ K' (3 * l + e) = K (3 * l + e)) : zse g st' K' n' l' so' = zse g st K n l so := by
  subst el es en
  unfold zse
  by_cases c : so' = 0
  · rw [if_pos c, if_pos c, hs]
  · rw [if_neg c, if_neg c]
    by_cases d : so' = 1 ∧ 0 < g 6
    · have e : zovZ K' (g (12 + 3 * (g 6 - 1))) l' (g 8) 3 = zovZ K (g (12 + 3 * (g 6 - 1))) l' (g 8) 3 := zov.cg 3 (fun e a b => hk d.1 d.2 e a (by omega))
      rw [if_pos d, if_pos d, e]
    · rw [if_neg d, if_neg d, hs]
/-- a walk behind so many letters -/
def zfo (q : Int → Int) (b : Int) (w : Int → Int) : Nat → Int → Int
  | 0 => fun i => if i = 7 then q (b + 2) else if i = 8 then smeZ (q b) else 0
  | n + 1 => zse (zfo q b w n) (zst q b) (zks q b) (q b) (w (n : Int)) (zsr q (w (n : Int)))
/-! the class's walk of a word -/
theorem SWk.e {M N : Mem} {w y : Int} (h : SWk N w y) (h5 : N w 5 = M w 5) (h6 : N w 6 = M w 6) (h7 : N w 7 = M w 7) : SWk M w y := by
  unfold SWk at h ⊢
  rw [h5, h6, h7] at h
  exact h
/-! what is answered -/
def zEW (f q : Int → Int) (a1 a2 n pl l r : Int) : Prop := ((0 ≤ a1 ∧ a1 < q 3 ∧ zWO f a2 n pl l) ∧ r = zfo q (85 * a1 + 100) (fun j => f (60 * a2 + j)) n.toNat 7) ∨ (¬ (0 ≤ a1 ∧ a1 < q 3 ∧ zWO f a2 n pl l) ∧ r = -1)
theorem zEW.u {f q : Int → Int} {a1 a2 n pl l r r' : Int} (h : zEW f q a1 a2 n pl l r) (h' : zEW f q a1 a2 n pl l r') : r = r' := by
  rcases h with ⟨a, b⟩ | ⟨a, b⟩ <;> rcases h' with ⟨a', b'⟩ | ⟨a', b'⟩
  · exact b.trans b'.symm
  · exact absurd a a'
  · exact absurd a' a
  · exact b.trans b'.symm
def zTAK (f q : Int → Int) (a1 a2 n pl l r : Int) : Prop := ((0 ≤ a1 ∧ a1 < q 3 ∧ zWO f a2 n pl l) ∧ ((r = 1 ∧ ¬ zand (zfo q (85 * a1 + 100) (fun j => f (60 * a2 + j)) n.toNat 7) (q (85 * a1 + 103)) = 0) ∨ (r = 0 ∧ zand (zfo q (85 * a1 + 100) (fun j => f (60 * a2 + j)) n.toNat 7) (q (85 * a1 + 103)) = 0))) ∨ (¬ (0 ≤ a1 ∧ a1 < q 3 ∧ zWO f a2 n pl l) ∧ r = -1)
theorem zTAK.u {f q : Int → Int} {a1 a2 n pl l r r' : Int} (h : zTAK f q a1 a2 n pl l r) (h' : zTAK f q a1 a2 n pl l r') : r = r' := by
  rcases h with ⟨a, b⟩ | ⟨a, b⟩ <;> rcases h' with ⟨a', b'⟩ | ⟨a', b'⟩
  · rcases b with b | b <;> rcases b' with b' | b'
    · exact b.1.trans b'.1.symm
    · exact absurd b'.2 b.2
    · exact absurd b.2 b'.2
    · exact b.1.trans b'.1.symm
  · exact absurd a a'
  · exact absurd a' a
  · exact b.trans b'.symm
/-! the reference: rules of the one array by a row -/
/-- rules of calls have symbols -/
def zQA (q : Int → Int) (c b : Int) : Prop := ∀ k, 0 ≤ k → k < q (b + 4) → q (b + 5 + 4 * k) < c → 0 ≤ q (b + 8 + 4 * k)
def zQC (q : Int → Int) : Prop := ∀ a, 0 ≤ a → a < q 3 → zQA q (q 0) (85 * a + 100)
theorem zQA.same {q q2 : Int → Int} {b b2 c : Int} (h : zQA q c b) (hn : q (b + 4) ≤ 20) (e : ∀ i, 4 ≤ i → i < 85 → q2 (b2 + i) = q (b + i)) : zQA q2 c b2 := fun k k0 k1 hl => by
  rw [e 4 (by decide) (by decide)] at k1
  have e5 := e (5 + 4 * k) (by omega) (by omega)
  have e8 := e (8 + 4 * k) (by omega) (by omega)
  rw [show b2 + (5 + 4 * k) = b2 + 5 + 4 * k by omega, show b + (5 + 4 * k) = b + 5 + 4 * k by omega] at e5
  rw [show b2 + (8 + 4 * k) = b2 + 8 + 4 * k by omega, show b + (8 + 4 * k) = b + 8 + 4 * k by omega] at e8
  rw [e8]
  exact h k k0 k1 (by omega)
theorem zQV.n {q : Int → Int} {a : Int} (h : zQV q) (h0 : 0 ≤ a) (h1 : a < q 3) : 0 ≤ q (85 * a + 100 + 4) ∧ q (85 * a + 100 + 4) ≤ 20 := by
  have u := h.u
  rcases (by omega : a = 0 ∨ a = 1) with e | e <;> subst e
  · exact ⟨u.2.2.1, u.2.2.2.1⟩
  · exact ⟨u.2.2.2.2.1, u.2.2.2.2.2⟩
theorem zQC.no {q : Int → Int} (h : q 3 ≤ 0) : zQC q := fun a a0 a1 => absurd a1 (by omega)
/-- rows that agree where rules stand -/
theorem zQC.same {q q2 : Int → Int} (h : zQC q) (hV : zQV q) (e3 : q2 3 = q 3) (e0 : q2 0 = q 0) (e : ∀ a, 0 ≤ a → a < q 3 → ∀ i, 4 ≤ i → i < 85 → q2 (85 * a + 100 + i) = q (85 * a + 100 + i)) : zQC q2 := fun a a0 a1 => by
  rw [e3] at a1
  rw [e0]
  exact (h a a0 a1).same (hV.n a0 a1).2 (e a a0 a1)
theorem zQC.up {q : Int → Int} {b l p r g : Int} (h : zQC q) (hV : zQV q) (hb : b = 100 ∨ b = 185) (hn : q (b + 4) ≤ 19) (hg : l < q 0 → 0 ≤ g) : zQC (uprul q b l p r g) := by
  have u := hV.u
  have n0 : 0 ≤ q (b + 4) := by
    rcases hb with e | e <;> subst e
    · exact u.2.2.1
    · exact u.2.2.2.2.1
  have w : ∀ i, i ≠ b + 4 → (i < b + 5 + 4 * q (b + 4) ∨ b + 8 + 4 * q (b + 4) < i) → uprul q b l p r g i = q i := fun i h4 h5 => by
    unfold uprul
    rw [if_neg h4, if_neg (by omega), if_neg (by omega), if_neg (by omega), if_neg (by omega)]
  intro a a0 a1
  rw [w 3 (by omega) (by omega)] at a1
  rw [w 0 (by omega) (by omega)]
  have ha := h a a0 a1
  have hn2 := hV.n a0 a1
  by_cases eb : 85 * a + 100 = b
  · rw [eb] at ha ⊢
    intro k k0 k1 hl
    rw [show uprul q b l p r g (b + 4) = q (b + 4) + 1 from if_pos rfl] at k1
    by_cases ek : k = q (b + 4)
    · subst ek
      have v5 : uprul q b l p r g (b + 5 + 4 * q (b + 4)) = l := by unfold uprul; rw [if_neg (by omega), if_pos rfl]
      have v8 : uprul q b l p r g (b + 8 + 4 * q (b + 4)) = g := by unfold uprul; rw [if_neg (by omega), if_neg (by omega), if_neg (by omega), if_neg (by omega), if_pos rfl]
      rw [v5] at hl
      rw [v8]
      exact hg hl
    · rw [w _ (by omega) (by omega)] at hl
      rw [w _ (by omega) (by omega)]
      exact ha k k0 (by omega) hl
  · exact ha.same hn2.2 (fun i i0 i1 => w _ (by omega) (by omega))
theorem zQC.dr {q : Int → Int} {b k' : Int} (h : zQC q) (hV : zQV q) (hb : b = 100 ∨ b = 185) (hk : 0 ≤ k' ∧ k' < q (b + 4)) : zQC (zdrop q b k') := by
  have u := hV.u
  have w : ∀ i, i ≠ b + 4 → (i < b + 5 + 4 * k' ∨ b + 1 + 4 * q (b + 4) ≤ i) → zdrop q b k' i = q i := fun i h4 h5 => by
    unfold zdrop
    rw [if_neg h4, if_neg (by omega)]
  have w2 : ∀ i, b + 5 + 4 * k' ≤ i → i < b + 1 + 4 * q (b + 4) → zdrop q b k' i = q (i + 4) := fun i h4 h5 => by
    unfold zdrop
    rw [if_neg (by omega), if_pos ⟨h4, h5⟩]
  intro a a0 a1
  rw [w 3 (by omega) (by omega)] at a1
  rw [w 0 (by omega) (by omega)]
  have ha := h a a0 a1
  have hn2 := hV.n a0 a1
  by_cases eb : 85 * a + 100 = b
  · rw [eb] at ha ⊢
    intro k k0 k1 hl
    rw [show zdrop q b k' (b + 4) = q (b + 4) - 1 from if_pos rfl] at k1
    by_cases ek : k < k'
    · rw [w _ (by omega) (by omega)] at hl
      rw [w _ (by omega) (by omega)]
      exact ha k k0 (by omega) hl
    · rw [w2 _ (by omega) (by omega), show b + 5 + 4 * k + 4 = b + 5 + 4 * (k + 1) by omega] at hl
      rw [w2 _ (by omega) (by omega), show b + 8 + 4 * k + 4 = b + 8 + 4 * (k + 1) by omega]
      exact ha (k + 1) (by omega) (by omega) hl
  · have hb2 : q (b + 4) ≤ 20 := by
      rcases hb with e | e <;> subst e
      · exact u.2.2.2.1
      · exact u.2.2.2.2.2
    exact ha.same hn2.2 (fun i i0 i1 => w _ (by omega) (by omega))
theorem zAD.c {q q2 : Int → Int} {a1 a2 a3 a4 a5 r : Int} (h : zAD q a1 a2 a3 a4 a5 r q2) (hq : zQC q) (hV : zQV q) : zQC q2 := by
  rcases h with ⟨a, b, c⟩ | ⟨a, b, c, d⟩ | ⟨a, b, c, d, e⟩ | ⟨a, b, c, d, e⟩
  · rw [c]; exact hq
  · rw [d]; exact hq
  · rw [e]; exact hq
  · have u := hV.u
    obtain ⟨a0, a1', a6⟩ := a
    unfold zCOk at a6
    rw [e]
    exact hq.up hV (by omega) (by rw [show 85 * a1 + 100 + 4 = 85 * a1 + 104 by omega]; exact b) (fun hl => by omega)
theorem zDR.c {q q2 : Int → Int} {a1 a2 r : Int} (h : zDR q a1 a2 r q2) (hq : zQC q) (hV : zQV q) : zQC q2 := by
  have u := hV.u
  rcases h with ⟨a, b, c⟩ | ⟨a, b, c⟩
  · rw [c]
    exact hq.dr hV (by omega) ⟨a.2.2.1, by rw [show 85 * a1 + 100 + 4 = 85 * a1 + 104 by omega]; exact a.2.2.2⟩
  · rw [c]; exact hq
theorem zST.c {q q2 : Int → Int} {w a1 a2 a3 r : Int} (h : zST q w a1 a2 a3 r q2) (hw : w = 2 ∨ w = 3) (hq : zQC q) (hV : zQV q) : zQC q2 := by
  have u := hV.u
  rcases h with ⟨a, b, c⟩ | ⟨a, b, c⟩
  · rw [c]
    exact hq.same hV (upk_o (by omega)) (upk_o (by omega)) (fun a' a0 a1' i i0 i1 => upk_o (by omega))
  · rw [c]; exact hq
theorem zCY.c {q q2 : Int → Int} {a1 a2 r : Int} (h : zCY q a1 a2 r q2) (hq : zQC q) (hV : zQV q) : zQC q2 := by
  have u := hV.u
  rcases h with ⟨a, b, c⟩ | ⟨a, b, c⟩
  · rw [c]
    have w : ∀ i, (i < 85 * a2 + 100 ∨ 85 * a2 + 185 ≤ i) → zcopy q a1 a2 i = q i := fun i hi => by unfold zcopy; rw [if_neg (by omega)]
    intro a' a0 a1'
    rw [w 3 (by omega)] at a1'
    rw [w 0 (by omega)]
    by_cases e : a' = a2
    · subst e
      exact (hq a1 a.1 a.2.1).same (hV.n a.1 a.2.1).2 (fun i i0 i1 => by
        unfold zcopy
        rw [if_pos ⟨by omega, by omega⟩, show 85 * a' + 100 + i - 85 * a' + 85 * a1 = 85 * a1 + 100 + i by omega])
    · exact (hq a' a0 a1').same (hV.n a0 a1').2 (fun i i0 i1 => w _ (by omega))
  · rw [c]; exact hq
theorem zRM.c {B t q : Int → Int} {b j fk fp e sy : Int} (h : zRM B t q b j 1 fk fp e sy) (hl : lfn B t (q 0) (q 1) (q 2) (j + 1) < q 0) : 0 ≤ sy := by
  unfold zRM at h
  rcases h with h | h | h | h | h | h | h | h | h | h | h | h | h | h | h | h | h | h | h | h | h | h | h | h <;> omega
theorem zQC.ps {B t q : Int → Int} {j fk fp e : Int} {q2 t2 : Int → Int} (h : zPS B t q j 1 fk fp e q2 t2) (hq : zQC q) (hV : zQV q) : zQC q2 := by
  have u := hV.u
  rcases h with ⟨a0, a1, a2, a3, a4, a5⟩ | ⟨a0, a2, a3, a4, a5⟩ | ⟨a0, a1, a2, ⟨s, a3, a4⟩, a5⟩ | ⟨a0, a2, ⟨y, a3, a4⟩, a5⟩ | ⟨a0, a1, a2, a3⟩
  · have q3 := a2.q.1
    rw [a4]
    exact zQC.no (by rw [upk_o (by omega)]; omega)
  · have q3 := a2.q
    rw [a4]
    intro a h0 h1
    rw [uaut_3 u.1] at h1
    by_cases z : a = q 3
    · intro k k0 k1
      have c4 : uaut q (tv B (j + 1)) (tv B (j + 3)) (85 * a + 100 + 4) = 0 := by unfold uaut upclr; rw [if_neg (by omega), if_neg (by omega), if_pos (by omega)]
      omega
    · rw [uaut_o (i := 0) (by decide) (by omega)]
      exact (hq a h0 (by omega)).same (hV.n h0 (by omega)).2 (fun i i0 i1 => uaut_o (by omega) (by omega))
  · rw [a4]
    exact hq.same hV (upk_o (by omega)) (upk_o (by omega)) (fun a' h0 h1 i i0 i1 => upk_o (by omega))
  · have q3 := a3.q
    rw [a4]
    refine hq.up hV (by omega) q3.1 (fun hl => ?_)
    rcases a3 with a3 | a3
    · exact absurd a3.1 (by decide)
    · exact a3.1.c hl
  · omega
theorem zCH.c {B : Int → Int} : ∀ (k : Nat) {j : Int} {q t : Int → Int}, zCH B k j q t → zQC q
  | 0, _, _, _, ⟨_, b, _⟩ => by subst b; exact zQC.no (by decide)
  | k + 1, _, _, _, ⟨j1, q1, t1, fk, fp, e, a, b, c⟩ => zQC.ps b (zCH.c k a) (zCH.v k a).2
theorem zOUT.c {B q t : Int → Int} {fk fp : Int} (h : zOUT B fk fp q t) : zQC q := by
  obtain ⟨k, j, a, _⟩ := h
  exact zCH.c k a
/-- of a row that a slot tells, to the slot and back -/
theorem zQC.to {f q : Int → Int} (h : zQC q) (hV : zQV q) (hS : zRN f q) (hU : zRU f q) : zQC f := fun a a0 a1 => by
  have u := hS.u
  have v := hV.u
  have a1' : a < q 3 := by omega
  have hB := hU.b (a := a) (b := 85 * a + 100) ⟨a0, by omega, a1'⟩ rfl
  intro k k0 k1 hl
  have e4 : f (85 * a + 100 + 4) = q (85 * a + 100 + 4) := hB.n (d := 4) (by decide) rfl
  have k2 : k < q (85 * a + 100 + 4) := by omega
  have e5 : f (85 * a + 100 + 5 + 4 * k) = q (85 * a + 100 + 5 + 4 * k) := hB.r k0 k2 (d := 0) (by decide) (by omega)
  have e8 : f (85 * a + 100 + 8 + 4 * k) = q (85 * a + 100 + 8 + 4 * k) := hB.r k0 k2 (d := 3) (by decide) (by omega)
  rw [e8]
  exact h a a0 a1' k k0 k2 (by omega)
theorem zQC.of {f q : Int → Int} (h : zQC f) (hV : zQV q) (hS : zRN f q) (hU : zRU f q) : zQC q := fun a a0 a1 => by
  have u := hS.u
  have v := hV.u
  have hB := hU.b (a := a) (b := 85 * a + 100) ⟨a0, by omega, a1⟩ rfl
  intro k k0 k2 hl
  have e4 : f (85 * a + 100 + 4) = q (85 * a + 100 + 4) := hB.n (d := 4) (by decide) rfl
  have e5 : f (85 * a + 100 + 5 + 4 * k) = q (85 * a + 100 + 5 + 4 * k) := hB.r k0 k2 (d := 0) (by decide) (by omega)
  have e8 : f (85 * a + 100 + 8 + 4 * k) = q (85 * a + 100 + 8 + 4 * k) := hB.r k0 k2 (d := 3) (by decide) (by omega)
  rw [← e8]
  exact h a a0 (by omega) k k0 (by omega) (by omega)
theorem zQC.cg {f g : Int → Int} (h : zQC f) (hn : ∀ a, 0 ≤ a → a < f 3 → f (85 * a + 100 + 4) ≤ 20 ∧ a ≤ 1) (e : ∀ i, (0 ≤ i ∧ i < 4) ∨ (100 ≤ i ∧ i < 270) → g i = f i) : zQC g := fun a a0 a1 => by
  rw [e 3 (by omega)] at a1
  rw [e 0 (by omega)]
  have n := hn a a0 a1
  exact (h a a0 a1).same n.1 (fun i i0 i1 => e _ (by omega))
/-! the reference's words: what is pending, by places -/
def zBC (N : Mem) (L : Int) (g : Int → Int) : Nat → Int → Int → Prop
  | 0, m, _ => m = -1
  | k + 1, m, n => 0 ≤ m ∧ m < n ∧ N 172 (21 * L + m) = g (10 + 3 * (k : Int)) ∧ N 173 (21 * L + m) = g (11 + 3 * (k : Int)) ∧ N 175 m = g (12 + 3 * (k : Int)) ∧ zBC N L g k (N 174 m) m
theorem zBC.cg {M N : Mem} {L : Int} {g g' : Int → Int} : ∀ (k : Nat) (m n : Int), zBC M L g k m n → (∀ j, 0 ≤ j → j < n → N 172 (21 * L + j) = M 172 (21 * L + j) ∧ N 173 (21 * L + j) = M 173 (21 * L + j) ∧ N 175 j = M 175 j ∧ N 174 j = M 174 j) → (∀ i, 10 ≤ i → i < 10 + 3 * (k : Int) → g' i = g i) → zBC N L g' k m n
  | 0, _, _, h, _, _ => h
  | k + 1, m, n, h, hN, hg => by
    obtain ⟨h0, h1, h2, h3, h4, h5⟩ := h
    obtain ⟨e1, e2, e3, e4⟩ := hN m h0 h1
    refine ⟨h0, h1, e1.trans (h2.trans (hg _ (by omega) (by omega)).symm), e2.trans (h3.trans (hg _ (by omega) (by omega)).symm), e3.trans (h4.trans (hg _ (by omega) (by omega)).symm), ?_⟩
    rw [e4]
    exact zBC.cg k _ _ h5 (fun j a b => hN j a (by omega)) (fun i a b => hg i a (by omega))
theorem zBC.no {N : Mem} {L m n : Int} {g : Int → Int} {k : Nat} (h : zBC N L g k m n) (e : m = -1) : k = 0 := by
  cases k with
  | zero => rfl
  | succ k => exact absurd h.1 (by omega)
