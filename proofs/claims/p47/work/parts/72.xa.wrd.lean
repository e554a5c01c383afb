/-! words read by an automaton of a row -/
def zst (q : Int → Int) (b l : Int) : Int := zsF (fun k => q (b + 5 + 4 * k)) (fun k => q (b + 6 + 4 * k)) (fun k => q (b + 7 + 4 * k)) (fun k => q (b + 8 + 4 * k)) (q 0) l (q (b + 4)).toNat
def zks (q : Int → Int) (b i : Int) : Int := zkF (fun k => q (b + 5 + 4 * k)) (fun k => q (b + 6 + 4 * k)) (fun k => q (b + 7 + 4 * k)) (fun k => q (b + 8 + 4 * k)) (i / 3) (i % 3) (q (b + 4)).toNat
def zsr (q : Int → Int) (l : Int) : Int := if l < q 0 then 0 else if l < q 0 + q 1 then 1 else 2
theorem zsr.of {q : Int → Int} {l so : Int} (h : (so = 0 ∧ l < q 0) ∨ (so = 1 ∧ ¬ l < q 0 ∧ l < q 0 + q 1) ∨ (so = 2 ∧ ¬ l < q 0 ∧ ¬ l < q 0 + q 1)) : so = zsr q l := by
  unfold zsr
  rcases h with ⟨a, b⟩ | ⟨a, b, c⟩ | ⟨a, b, c⟩
  · rw [if_pos b, a]
  · rw [if_neg b, if_pos c, a]
  · rw [if_neg b, if_neg c, a]
theorem AT.sl {M : Mem} {x b l : Int} {q : Int → Int} (h : AT M x q b) (hl : 0 ≤ l ∧ l ≤ 5) : M (M x 10) l = zst q b l := by
  have n := h.num
  rw [h.2.1 l hl.1 (by omega), n.2.2.2.2.1]
  exact zsF.cg n.2.2.2.2.2 _ (fun j h0 h1 => h.rul j h0 (by omega))
theorem AT.kl {M : Mem} {x b l g : Int} {q : Int → Int} (h : AT M x q b) (hl : 0 ≤ l ∧ l ≤ 5) (hg : 0 ≤ g ∧ g ≤ 2) : M (M x 11) (3 * l + g) = zks q b (3 * l + g) := by
  have n := h.num
  rw [h.2.2 l g hl.1 (by omega) hg.1 (by omega), n.2.2.2.2.1]
  unfold zks
  rw [show (3 * l + g) / 3 = l by omega, show (3 * l + g) % 3 = g by omega]
  exact zkF.cg _ (fun j h0 h1 => h.rul j h0 (by omega))
theorem zov.cg {K K' : Int → Int} {c l x : Int} : ∀ n : Nat, (∀ g : Int, 0 ≤ g → g < n → K' (3 * c + g) = K (3 * c + g) ∧ K' (3 * l + g) = K (3 * l + g)) → zov K' c l x n = zov K c l x n
  | 0, _ => rfl
  | n + 1, h => by
    have i := zov.cg (x := x) n (fun g a b => h g a (by omega))
    obtain ⟨a, b⟩ := h (n : Int) (by omega) (by omega)
    unfold zov
    rw [i, a, b]
theorem zse.cg {g st K st' K' : Int → Int} {n n' l l' so so' : Int} (el : l' = l) (es : so' = so) (en : n' = n) (hs : st' l = st l) (hk : so = 1 → 0 < g 6 → ∀ e : Int, 0 ≤ e → e < 3 → K' (3 * g (12 + 3 * (g 6 - 1)) + e) = K (3 * g (12 + 3 * (g 6 - 1)) + e) ∧ K' (3 * l + e) = K (3 * l + e)) : zse g st' K' n' l' so' = zse g st K n l so := by
  subst el es en
  unfold zse
  by_cases c : so' = 0
  · rw [if_pos c, if_pos c, hs]
  · rw [if_neg c, if_neg c]
    by_cases d : so' = 1 ∧ 0 < g 6
    · have e : zovZ K' (g (12 + 3 * (g 6 - 1))) l' (g 8) 3 = zovZ K (g (12 + 3 * (g 6 - 1))) l' (g 8) 3 := zov.cg 3 (fun e a b => hk d.1 d.2 e a (by omega))
      rw [if_pos d, if_pos d, e]
    · rw [if_neg d, if_neg d, hs]
/-- a walk behind so many letters -/
def zfo (q : Int → Int) (b : Int) (w : Int → Int) : Nat → Int → Int
  | 0 => fun i => if i = 7 then q (b + 2) else if i = 8 then smeZ (q b) else 0
  | n + 1 => zse (zfo q b w n) (zst q b) (zks q b) (q b) (w (n : Int)) (zsr q (w (n : Int)))
theorem zfo_0 {q : Int → Int} {b : Int} {w : Int → Int} (i : Int) : zfo q b w 0 i = if i = 7 then q (b + 2) else if i = 8 then smeZ (q b) else 0 := rfl
theorem zfo_s {q : Int → Int} {b i : Int} {w : Int → Int} (h : 0 ≤ i) : zfo q b w (i + 1).toNat = zse (zfo q b w i.toNat) (zst q b) (zks q b) (q b) (w i) (zsr q (w i)) := by
  rw [show (i + 1).toNat = i.toNat + 1 by omega]
  have z : zfo q b w (i.toNat + 1) = zse (zfo q b w i.toNat) (zst q b) (zks q b) (q b) (w (i.toNat : Int)) (zsr q (w (i.toNat : Int))) := rfl
  rw [z, show ((i.toNat : Nat) : Int) = i by omega]
theorem zse_c {g st K : Int → Int} {ns l so : Int} (hs : so = 0) (hp : 0 ≤ g 6) : zse g st K ns l so 6 = g 6 + 1 ∧ zse g st K ns l so 7 = zmZ (g 7) (st l) 3 ∧ zse g st K ns l so 8 = smeZ ns ∧ zse g st K ns l so (10 + 3 * g 6) = g 7 ∧ zse g st K ns l so (11 + 3 * g 6) = g 8 ∧ zse g st K ns l so (12 + 3 * g 6) = l ∧ ∀ i, 10 ≤ i → i < 10 + 3 * g 6 → zse g st K ns l so i = g i := by
  have z : zse g st K ns l so = upk (upk (upk (upk (upk (upk (upk g (10 + 3 * g 6) (g 7)) (11 + 3 * g 6) (g 8)) (12 + 3 * g 6) l) 6 (g 6 + 1)) 7 (zmZ (g 7) (st l) 3)) 8 (smeZ ns)) 5 (w32 (g 5 + 1)) := by unfold zse; rw [if_pos hs]
  rw [z]
  refine ⟨?_, ?_, ?_, ?_, ?_, ?_, fun i i0 i1 => ?_⟩
  · rw [upk_o (by omega), upk_o (by omega), upk_o (by omega), upk_s]
  · rw [upk_o (by omega), upk_o (by omega), upk_s]
  · rw [upk_o (by omega), upk_s]
  · rw [upk_o (by omega), upk_o (by omega), upk_o (by omega), upk_o (by omega), upk_o (by omega), upk_o (by omega), upk_s]
  · rw [upk_o (by omega), upk_o (by omega), upk_o (by omega), upk_o (by omega), upk_o (by omega), upk_s]
  · rw [upk_o (by omega), upk_o (by omega), upk_o (by omega), upk_o (by omega), upk_s]
  · rw [upk_o (by omega), upk_o (by omega), upk_o (by omega), upk_o (by omega), upk_o (by omega), upk_o (by omega), upk_o (by omega)]
theorem zse_b {g st K : Int → Int} {ns l so : Int} (hs : so = 1) (hp : 0 < g 6) : zse g st K ns l so 6 = g 6 - 1 ∧ zse g st K ns l so 7 = zmZ (g (10 + 3 * (g 6 - 1))) (zovZ K (g (12 + 3 * (g 6 - 1))) l (g 8) 3) 3 ∧ zse g st K ns l so 8 = thnZ (g (11 + 3 * (g 6 - 1))) (zovZ K (g (12 + 3 * (g 6 - 1))) l (g 8) 3) 9 ∧ ∀ i, 10 ≤ i → zse g st K ns l so i = g i := by
  have z : zse g st K ns l so = upk (upk (upk (upk g 6 (g 6 - 1)) 7 (zmZ (g (10 + 3 * (g 6 - 1))) (zovZ K (g (12 + 3 * (g 6 - 1))) l (g 8) 3) 3)) 8 (thnZ (g (11 + 3 * (g 6 - 1))) (zovZ K (g (12 + 3 * (g 6 - 1))) l (g 8) 3) 9)) 5 (w32 (g 5 + 1)) := by unfold zse; rw [if_neg (by omega), if_pos ⟨hs, hp⟩]
  rw [z]
  refine ⟨?_, ?_, ?_, fun i i0 => ?_⟩
  · rw [upk_o (by omega), upk_o (by omega), upk_o (by omega), upk_s]
  · rw [upk_o (by omega), upk_o (by omega), upk_s]
  · rw [upk_o (by omega), upk_s]
  · rw [upk_o (by omega), upk_o (by omega), upk_o (by omega), upk_o (by omega)]
theorem zse_i {g st K : Int → Int} {ns l so : Int} (hs : ¬ so = 0) (hs2 : ¬ (so = 1 ∧ 0 < g 6)) : zse g st K ns l so 6 = g 6 ∧ zse g st K ns l so 7 = zmZ (g 7) (st l) 3 ∧ zse g st K ns l so 8 = thnZ (g 8) (st l) 9 ∧ ∀ i, 10 ≤ i → zse g st K ns l so i = g i := by
  have z : zse g st K ns l so = upk (upk (upk g 7 (zmZ (g 7) (st l) 3)) 8 (thnZ (g 8) (st l) 9)) 5 (w32 (g 5 + 1)) := by unfold zse; rw [if_neg hs, if_neg hs2]
  rw [z]
  refine ⟨?_, ?_, ?_, fun i i0 => ?_⟩
  · rw [upk_o (by omega), upk_o (by omega), upk_o (by omega)]
  · rw [upk_o (by omega), upk_o (by omega), upk_s]
  · rw [upk_o (by omega), upk_s]
  · rw [upk_o (by omega), upk_o (by omega), upk_o (by omega)]
theorem zse_6 {g st K : Int → Int} {ns l so : Int} (hp : 0 ≤ g 6) : 0 ≤ zse g st K ns l so 6 ∧ zse g st K ns l so 6 ≤ g 6 + 1 := by
  by_cases c : so = 0
  · have h := (zse_c (st := st) (K := K) (ns := ns) (l := l) c hp).1
    omega
  · by_cases d : so = 1 ∧ 0 < g 6
    · have h := (zse_b (st := st) (K := K) (ns := ns) (l := l) d.1 d.2).1
      omega
    · have h := (zse_i (st := st) (K := K) (ns := ns) (l := l) c d).1
      omega
theorem zfo_6 {q : Int → Int} {b : Int} {w : Int → Int} : ∀ n : Nat, 0 ≤ zfo q b w n 6 ∧ zfo q b w n 6 ≤ n
  | 0 => by rw [zfo_0, if_neg (by decide), if_neg (by decide)]; exact ⟨Int.le_refl 0, Int.le_refl 0⟩
  | n + 1 => by
    have i := zfo_6 (q := q) (b := b) (w := w) n
    have h := zse_6 (st := zst q b) (K := zks q b) (ns := q b) (l := w (n : Int)) (so := zsr q (w (n : Int))) i.1
    have z : zfo q b w (n + 1) = zse (zfo q b w n) (zst q b) (zks q b) (q b) (w (n : Int)) (zsr q (w (n : Int))) := rfl
    rw [z]
    omega
/-! the class's walk of a word -/
theorem SWk.e {M N : Mem} {w y : Int} (h : SWk N w y) (h5 : N w 5 = M w 5) (h6 : N w 6 = M w 6) (h7 : N w 7 = M w 7) : SWk M w y := by
  unfold SWk at h ⊢
  rw [h5, h6, h7] at h
  exact h
theorem wlk_bc {M : Mem} (hI : Inv false M) {w : Int} (hk : kd w = 8) (j : Int) : 0 ≤ M (M w 7) j ∧ M (M w 7) j ≤ 5 := by
  have h7 : kd (M w 7) = 11 := Inv.r hI hk rfl 7 rfl rfl
  exact Inv.g hI h7 rfl j (a := 0) (b := 5) rfl rfl
theorem zWG.beg {N : Mem} {w b : Int} {q W : Int → Int} (e1 : N w 1 = 0) (e2 : N w 2 = 0) (e3 : N w 3 = q (b + 2)) (e4 : N w 4 = smeZ (q b)) : zWG N w (zfo q b W 0) := by
  refine ⟨?_, ?_, ?_, ?_, fun k h0 h1 => absurd h1 ?_⟩
  · rw [zfo_0, if_neg (by decide), if_neg (by decide)]; exact e1
  · rw [zfo_0, if_neg (by decide), if_neg (by decide)]; exact e2
  · rw [zfo_0, if_pos rfl]; exact e3
  · rw [zfo_0, if_neg (by decide), if_pos rfl]; exact e4
  · rw [zfo_0, if_neg (by decide), if_neg (by decide)]; omega
theorem zWG.fo {L N' : Mem} {w x b i i' l so : Int} {q W : Int → Int} (hz : zWG N' w (zse (zfo q b W i.toNat) (L (L x 10)) (L (L x 11)) (L x 0) l so)) (hI : Inv false L) (hw : kd w = 8) (hA : AT L x q b) (hG : zWG L w (zfo q b W i.toNat)) (h0 : 0 ≤ i) (e : i' = i + 1) (hl : l = W i) (hr : 0 ≤ l ∧ l ≤ 5) (hso : so = zsr q l) : zWG N' w (zfo q b W i'.toNat) := by
  subst e
  rw [zfo_s h0, ← hl]
  have h := zse.cg (g := zfo q b W i.toNat) (K' := zks q b) (K := L (L x 11)) (rfl : l = l) hso.symm (hA.num.1.symm : q b = L x 0) (hA.sl hr).symm (fun _ h6 e' a c => by
    have t := (hG.2.2.2.2 (zfo q b W i.toNat 6 - 1) (by omega) (by omega)).2.2
    have r := wlk_bc hI hw (zfo q b W i.toNat 6 - 1)
    rw [t] at r
    exact ⟨(hA.kl r ⟨a, by omega⟩).symm, (hA.kl hr ⟨a, by omega⟩).symm⟩)
  rw [h]
  exact hz
theorem zWG.end {N : Mem} {w b i n : Int} {q W : Int → Int} (h : zWG N w (zfo q b W i.toNat)) (e : i = n) : zWG N w (zfo q b W n.toNat) := by subst e; exact h
/-! what is answered -/
def zEW (f q : Int → Int) (a1 a2 n pl l r : Int) : Prop := ((0 ≤ a1 ∧ a1 < q 3 ∧ zWO f a2 n pl l) ∧ r = zfo q (85 * a1 + 100) (fun j => f (60 * a2 + j)) n.toNat 7) ∨ (¬ (0 ≤ a1 ∧ a1 < q 3 ∧ zWO f a2 n pl l) ∧ r = -1)
theorem zEW.u {f q : Int → Int} {a1 a2 n pl l r r' : Int} (h : zEW f q a1 a2 n pl l r) (h' : zEW f q a1 a2 n pl l r') : r = r' := by
  rcases h with ⟨a, b⟩ | ⟨a, b⟩ <;> rcases h' with ⟨a', b'⟩ | ⟨a', b'⟩
  · exact b.trans b'.symm
  · exact absurd a a'
  · exact absurd a' a
  · exact b.trans b'.symm
def zTAK (f q : Int → Int) (a1 a2 n pl l r : Int) : Prop := ((0 ≤ a1 ∧ a1 < q 3 ∧ zWO f a2 n pl l) ∧ ((r = 1 ∧ ¬ zand (zfo q (85 * a1 + 100) (fun j => f (60 * a2 + j)) n.toNat 7) (q (85 * a1 + 103)) = 0) ∨ (r = 0 ∧ zand (zfo q (85 * a1 + 100) (fun j => f (60 * a2 + j)) n.toNat 7) (q (85 * a1 + 103)) = 0))) ∨ (¬ (0 ≤ a1 ∧ a1 < q 3 ∧ zWO f a2 n pl l) ∧ r = -1)
theorem zTAK.u {f q : Int → Int} {a1 a2 n pl l r r' : Int} (h : zTAK f q a1 a2 n pl l r) (h' : zTAK f q a1 a2 n pl l r') : r = r' := by
  rcases h with ⟨a, b⟩ | ⟨a, b⟩ <;> rcases h' with ⟨a', b'⟩ | ⟨a', b'⟩
  · rcases b with b | b <;> rcases b' with b' | b'
    · exact b.1.trans b'.1.symm
    · exact absurd b'.2 b.2
    · exact absurd b.2 b'.2
    · exact b.1.trans b'.1.symm
  · exact absurd a a'
  · exact absurd a' a
  · exact b.trans b'.symm
/-! the reference: rules of the one array by a row -/
/-- rules of calls have symbols -/
def zQA (q : Int → Int) (c b : Int) : Prop := ∀ k, 0 ≤ k → k < q (b + 4) → q (b + 5 + 4 * k) < c → 0 ≤ q (b + 8 + 4 * k)
def zQC (q : Int → Int) : Prop := ∀ a, 0 ≤ a → a < q 3 → zQA q (q 0) (85 * a + 100)
theorem zQA.same {q q2 : Int → Int} {b b2 c : Int} (h : zQA q c b) (hn : q (b + 4) ≤ 20) (e : ∀ i, 4 ≤ i → i < 85 → q2 (b2 + i) = q (b + i)) : zQA q2 c b2 := fun k k0 k1 hl => by
  rw [e 4 (by decide) (by decide)] at k1
  have e5 := e (5 + 4 * k) (by omega) (by omega)
  have e8 := e (8 + 4 * k) (by omega) (by omega)
  rw [show b2 + (5 + 4 * k) = b2 + 5 + 4 * k by omega, show b + (5 + 4 * k) = b + 5 + 4 * k by omega] at e5
  rw [show b2 + (8 + 4 * k) = b2 + 8 + 4 * k by omega, show b + (8 + 4 * k) = b + 8 + 4 * k by omega] at e8
  rw [e8]
  exact h k k0 k1 (by omega)
theorem zQV.n {q : Int → Int} {a : Int} (h : zQV q) (h0 : 0 ≤ a) (h1 : a < q 3) : 0 ≤ q (85 * a + 100 + 4) ∧ q (85 * a + 100 + 4) ≤ 20 := by
  have u := h.u
  rcases (by omega : a = 0 ∨ a = 1) with e | e <;> subst e
  · exact ⟨u.2.2.1, u.2.2.2.1⟩
  · exact ⟨u.2.2.2.2.1, u.2.2.2.2.2⟩
theorem zQC.no {q : Int → Int} (h : q 3 ≤ 0) : zQC q := fun a a0 a1 => absurd a1 (by omega)
/-- rows that agree where rules stand -/
theorem zQC.same {q q2 : Int → Int} (h : zQC q) (hV : zQV q) (e3 : q2 3 = q 3) (e0 : q2 0 = q 0) (e : ∀ a, 0 ≤ a → a < q 3 → ∀ i, 4 ≤ i → i < 85 → q2 (85 * a + 100 + i) = q (85 * a + 100 + i)) : zQC q2 := fun a a0 a1 => by
  rw [e3] at a1
  rw [e0]
  exact (h a a0 a1).same (hV.n a0 a1).2 (e a a0 a1)
theorem zQC.up {q : Int → Int} {b l p r g : Int} (h : zQC q) (hV : zQV q) (hb : b = 100 ∨ b = 185) (hn : q (b + 4) ≤ 19) (hg : l < q 0 → 0 ≤ g) : zQC (uprul q b l p r g) := by
  have u := hV.u
  have n0 : 0 ≤ q (b + 4) := by
    rcases hb with e | e <;> subst e
    · exact u.2.2.1
    · exact u.2.2.2.2.1
  have w : ∀ i, i ≠ b + 4 → (i < b + 5 + 4 * q (b + 4) ∨ b + 8 + 4 * q (b + 4) < i) → uprul q b l p r g i = q i := fun i h4 h5 => by
    unfold uprul
    rw [if_neg h4, if_neg (by omega), if_neg (by omega), if_neg (by omega), if_neg (by omega)]
  intro a a0 a1
  rw [w 3 (by omega) (by omega)] at a1
  rw [w 0 (by omega) (by omega)]
  have ha := h a a0 a1
  have hn2 := hV.n a0 a1
  by_cases eb : 85 * a + 100 = b
  · rw [eb] at ha ⊢
    intro k k0 k1 hl
    rw [show uprul q b l p r g (b + 4) = q (b + 4) + 1 from if_pos rfl] at k1
    by_cases ek : k = q (b + 4)
    · subst ek
      have v5 : uprul q b l p r g (b + 5 + 4 * q (b + 4)) = l := by unfold uprul; rw [if_neg (by omega), if_pos rfl]
      have v8 : uprul q b l p r g (b + 8 + 4 * q (b + 4)) = g := by unfold uprul; rw [if_neg (by omega), if_neg (by omega), if_neg (by omega), if_neg (by omega), if_pos rfl]
      rw [v5] at hl
      rw [v8]
      exact hg hl
    · rw [w _ (by omega) (by omega)] at hl
      rw [w _ (by omega) (by omega)]
      exact ha k k0 (by omega) hl
  · exact ha.same hn2.2 (fun i i0 i1 => w _ (by omega) (by omega))
theorem zQC.dr {q : Int → Int} {b k' : Int} (h : zQC q) (hV : zQV q) (hb : b = 100 ∨ b = 185) (hk : 0 ≤ k' ∧ k' < q (b + 4)) : zQC (zdrop q b k') := by
  have u := hV.u
  have w : ∀ i, i ≠ b + 4 → (i < b + 5 + 4 * k' ∨ b + 1 + 4 * q (b + 4) ≤ i) → zdrop q b k' i = q i := fun i h4 h5 => by
    unfold zdrop
    rw [if_neg h4, if_neg (by omega)]
  have w2 : ∀ i, b + 5 + 4 * k' ≤ i → i < b + 1 + 4 * q (b + 4) → zdrop q b k' i = q (i + 4) := fun i h4 h5 => by
    unfold zdrop
    rw [if_neg (by omega), if_pos ⟨h4, h5⟩]
  intro a a0 a1
  rw [w 3 (by omega) (by omega)] at a1
  rw [w 0 (by omega) (by omega)]
  have ha := h a a0 a1
  have hn2 := hV.n a0 a1
  by_cases eb : 85 * a + 100 = b
  · rw [eb] at ha ⊢
    intro k k0 k1 hl
    rw [show zdrop q b k' (b + 4) = q (b + 4) - 1 from if_pos rfl] at k1
    by_cases ek : k < k'
    · rw [w _ (by omega) (by omega)] at hl
      rw [w _ (by omega) (by omega)]
      exact ha k k0 (by omega) hl
    · rw [w2 _ (by omega) (by omega), show b + 5 + 4 * k + 4 = b + 5 + 4 * (k + 1) by omega] at hl
      rw [w2 _ (by omega) (by omega), show b + 8 + 4 * k + 4 = b + 8 + 4 * (k + 1) by omega]
      exact ha (k + 1) (by omega) (by omega) hl
  · have hb2 : q (b + 4) ≤ 20 := by
      rcases hb with e | e <;> subst e
      · exact u.2.2.2.1
      · exact u.2.2.2.2.2
    exact ha.same hn2.2 (fun i i0 i1 => w _ (by omega) (by omega))
theorem zAD.c {q q2 : Int → Int} {a1 a2 a3 a4 a5 r : Int} (h : zAD q a1 a2 a3 a4 a5 r q2) (hq : zQC q) (hV : zQV q) : zQC q2 := by
  rcases h with ⟨a, b, c⟩ | ⟨a, b, c, d⟩ | ⟨a, b, c, d, e⟩ | ⟨a, b, c, d, e⟩
  · rw [c]; exact hq
  · rw [d]; exact hq
  · rw [e]; exact hq
  · have u := hV.u
    obtain ⟨a0, a1', a6⟩ := a
    unfold zCOk at a6
    rw [e]
    exact hq.up hV (by omega) (by rw [show 85 * a1 + 100 + 4 = 85 * a1 + 104 by omega]; exact b) (fun hl => by omega)
theorem zDR.c {q q2 : Int → Int} {a1 a2 r : Int} (h : zDR q a1 a2 r q2) (hq : zQC q) (hV : zQV q) : zQC q2 := by
  have u := hV.u
  rcases h with ⟨a, b, c⟩ | ⟨a, b, c⟩
  · rw [c]
    exact hq.dr hV (by omega) ⟨a.2.2.1, by rw [show 85 * a1 + 100 + 4 = 85 * a1 + 104 by omega]; exact a.2.2.2⟩
  · rw [c]; exact hq
theorem zST.c {q q2 : Int → Int} {w a1 a2 a3 r : Int} (h : zST q w a1 a2 a3 r q2) (hw : w = 2 ∨ w = 3) (hq : zQC q) (hV : zQV q) : zQC q2 := by
  have u := hV.u
  rcases h with ⟨a, b, c⟩ | ⟨a, b, c⟩
  · rw [c]
    exact hq.same hV (upk_o (by omega)) (upk_o (by omega)) (fun a' a0 a1' i i0 i1 => upk_o (by omega))
  · rw [c]; exact hq
theorem zCY.c {q q2 : Int → Int} {a1 a2 r : Int} (h : zCY q a1 a2 r q2) (hq : zQC q) (hV : zQV q) : zQC q2 := by
  have u := hV.u
  rcases h with ⟨a, b, c⟩ | ⟨a, b, c⟩
  · rw [c]
    have w : ∀ i, (i < 85 * a2 + 100 ∨ 85 * a2 + 185 ≤ i) → zcopy q a1 a2 i = q i := fun i hi => by unfold zcopy; rw [if_neg (by omega)]
    intro a' a0 a1'
    rw [w 3 (by omega)] at a1'
    rw [w 0 (by omega)]
    by_cases e : a' = a2
    · subst e
      exact (hq a1 a.1 a.2.1).same (hV.n a.1 a.2.1).2 (fun i i0 i1 => by
        unfold zcopy
        rw [if_pos ⟨by omega, by omega⟩, show 85 * a' + 100 + i - 85 * a' + 85 * a1 = 85 * a1 + 100 + i by omega])
    · exact (hq a' a0 a1').same (hV.n a0 a1').2 (fun i i0 i1 => w _ (by omega))
  · rw [c]; exact hq
theorem zRM.c {B t q : Int → Int} {b j fk fp e sy : Int} (h : zRM B t q b j 1 fk fp e sy) (hl : lfn B t (q 0) (q 1) (q 2) (j + 1) < q 0) : 0 ≤ sy := by
  unfold zRM at h
  rcases h with h | h | h | h | h | h | h | h | h | h | h | h | h | h | h | h | h | h | h | h | h | h | h | h <;> omega
theorem zQC.ps {B t q : Int → Int} {j fk fp e : Int} {q2 t2 : Int → Int} (h : zPS B t q j 1 fk fp e q2 t2) (hq : zQC q) (hV : zQV q) : zQC q2 := by
  have u := hV.u
  rcases h with ⟨a0, a1, a2, a3, a4, a5⟩ | ⟨a0, a2, a3, a4, a5⟩ | ⟨a0, a1, a2, ⟨s, a3, a4⟩, a5⟩ | ⟨a0, a2, ⟨y, a3, a4⟩, a5⟩ | ⟨a0, a1, a2, a3⟩
  · have q3 := a2.q.1
    rw [a4]
    exact zQC.no (by rw [upk_o (by omega)]; omega)
  · have q3 := a2.q
    rw [a4]
    intro a h0 h1
    rw [uaut_3 u.1] at h1
    by_cases z : a = q 3
    · intro k k0 k1
      have c4 : uaut q (tv B (j + 1)) (tv B (j + 3)) (85 * a + 100 + 4) = 0 := by unfold uaut upclr; rw [if_neg (by omega), if_neg (by omega), if_pos (by omega)]
      omega
    · rw [uaut_o (i := 0) (by decide) (by omega)]
      exact (hq a h0 (by omega)).same (hV.n h0 (by omega)).2 (fun i i0 i1 => uaut_o (by omega) (by omega))
  · rw [a4]
    exact hq.same hV (upk_o (by omega)) (upk_o (by omega)) (fun a' h0 h1 i i0 i1 => upk_o (by omega))
  · have q3 := a3.q
    rw [a4]
    refine hq.up hV (by omega) q3.1 (fun hl => ?_)
    rcases a3 with a3 | a3
    · exact absurd a3.1 (by decide)
    · exact a3.1.c hl
  · omega
theorem zCH.c {B : Int → Int} : ∀ (k : Nat) {j : Int} {q t : Int → Int}, zCH B k j q t → zQC q
  | 0, _, _, _, ⟨_, b, _⟩ => by subst b; exact zQC.no (by decide)
  | k + 1, _, _, _, ⟨j1, q1, t1, fk, fp, e, a, b, c⟩ => zQC.ps b (zCH.c k a) (zCH.v k a).2
theorem zOUT.c {B q t : Int → Int} {fk fp : Int} (h : zOUT B fk fp q t) : zQC q := by
  obtain ⟨k, j, a, _⟩ := h
  exact zCH.c k a
/-- of a row that a slot tells, to the slot and back -/
theorem zQC.to {f q : Int → Int} (h : zQC q) (hV : zQV q) (hS : zRN f q) (hU : zRU f q) : zQC f := fun a a0 a1 => by
  have u := hS.u
  have v := hV.u
  have a1' : a < q 3 := by omega
  have hB := hU.b (a := a) (b := 85 * a + 100) ⟨a0, by omega, a1'⟩ rfl
  intro k k0 k1 hl
  have e4 : f (85 * a + 100 + 4) = q (85 * a + 100 + 4) := hB.n (d := 4) (by decide) rfl
  have k2 : k < q (85 * a + 100 + 4) := by omega
  have e5 : f (85 * a + 100 + 5 + 4 * k) = q (85 * a + 100 + 5 + 4 * k) := hB.r k0 k2 (d := 0) (by decide) (by omega)
  have e8 : f (85 * a + 100 + 8 + 4 * k) = q (85 * a + 100 + 8 + 4 * k) := hB.r k0 k2 (d := 3) (by decide) (by omega)
  rw [e8]
  exact h a a0 a1' k k0 k2 (by omega)
theorem zQC.of {f q : Int → Int} (h : zQC f) (hV : zQV q) (hS : zRN f q) (hU : zRU f q) : zQC q := fun a a0 a1 => by
  have u := hS.u
  have v := hV.u
  have hB := hU.b (a := a) (b := 85 * a + 100) ⟨a0, by omega, a1⟩ rfl
  intro k k0 k2 hl
  have e4 : f (85 * a + 100 + 4) = q (85 * a + 100 + 4) := hB.n (d := 4) (by decide) rfl
  have e5 : f (85 * a + 100 + 5 + 4 * k) = q (85 * a + 100 + 5 + 4 * k) := hB.r k0 k2 (d := 0) (by decide) (by omega)
  have e8 : f (85 * a + 100 + 8 + 4 * k) = q (85 * a + 100 + 8 + 4 * k) := hB.r k0 k2 (d := 3) (by decide) (by omega)
  rw [← e8]
  exact h a a0 (by omega) k k0 (by omega) (by omega)
theorem zQC.cg {f g : Int → Int} (h : zQC f) (hn : ∀ a, 0 ≤ a → a < f 3 → f (85 * a + 100 + 4) ≤ 20 ∧ a ≤ 1) (e : ∀ i, (0 ≤ i ∧ i < 4) ∨ (100 ≤ i ∧ i < 270) → g i = f i) : zQC g := fun a a0 a1 => by
  rw [e 3 (by omega)] at a1
  rw [e 0 (by omega)]
  have n := hn a a0 a1
  exact (h a a0 a1).same n.1 (fun i i0 i1 => e _ (by omega))
theorem zhn {M : Mem} (hI : Inv true M) : ∀ b, 0 ≤ b → b ≤ 1 → 0 ≤ M 164 (104 + 85 * b) ∧ M 164 (104 + 85 * b) ≤ 20 := fun b h0 h1 => by
  have f := at_a (104 + 85 * b) 0 b 4 (by omega) ⟨h0, h1⟩ (by decide)
  exact Inv.g hI kd_164 rfl _ (a := 0) (b := 20) f.1 f.2
theorem zRows_n {f q : Int → Int} {a : Int} (hB : zRB f q (85 * a + 100)) : f (104 + 85 * a) = q (85 * a + 100 + 4) := by
  rw [show 104 + 85 * a = 85 * a + 100 + 4 by omega]; exact hB.n (d := 4) (by decide) rfl
theorem zRows_q {f q : Int → Int} {a b : Int} (hb : b = 85 * a + 100) (hB : zRB f q b) : zRows f a (fun k => q (b + 5 + 4 * k)) (fun k => q (b + 6 + 4 * k)) (fun k => q (b + 7 + 4 * k)) (fun k => q (b + 8 + 4 * k)) := fun k h0 h1 => by
  subst hb
  have e4 := zRows_n hB
  have h1' : k < q (85 * a + 100 + 4) := by omega
  refine ⟨?_, ?_, ?_, ?_⟩
  · rw [show 105 + 85 * a + 4 * k = 85 * a + 100 + 5 + 4 * k by omega]; exact (hB.r h0 h1' (d := 0) (by decide) (by omega)).symm
  · rw [show 106 + 85 * a + 4 * k = 85 * a + 100 + 6 + 4 * k by omega]; exact (hB.r h0 h1' (d := 1) (by decide) (by omega)).symm
  · rw [show 107 + 85 * a + 4 * k = 85 * a + 100 + 7 + 4 * k by omega]; exact (hB.r h0 h1' (d := 2) (by decide) (by omega)).symm
  · rw [show 108 + 85 * a + 4 * k = 85 * a + 100 + 8 + 4 * k by omega]; exact (hB.r h0 h1' (d := 3) (by decide) (by omega)).symm
theorem zLK_s {M : Mem} {q : Int → Int} {a l s : Int} (hI : Inv true M) (hD : LD M) (hS : zRN (M 164) q) (hU : zRU (M 164) q) (hC : zQC q) (ha : 0 ≤ a ∧ a < q 3) (hl : 0 ≤ l ∧ l ≤ 5) (hs : s = if l < q 0 then 7 else 8) : leadZ (M 171) (54 * a + 9 * l) s 9 = zst q (85 * a + 100) l := by
  have u := hS.u
  have hB := hU.b (a := a) (b := 85 * a + 100) ⟨ha.1, by omega, ha.2⟩ rfl
  have e4 := zRows_n hB
  have h := link_s (c := q 0) (l := l) (zAX_of hI) ⟨ha.1, by omega, by omega⟩ (zhn hI) (zRows_q rfl hB) hl (fun k h0 h1 h2 h3 => hC a ha.1 ha.2 k h0 (by omega) (by have h : q (85 * a + 100 + 5 + 4 * k) = l := h2; omega))
  rw [hD.lead ⟨ha.1, by omega⟩ hl, hs, h, e4]
  rfl
theorem zLK_k {M : Mem} {q : Int → Int} {a l g s : Int} (hI : Inv true M) (hD : LD M) (hS : zRN (M 164) q) (hU : zRU (M 164) q) (ha : 0 ≤ a ∧ a < q 3) (hl : 0 ≤ l ∧ l ≤ 5) (hg : 0 ≤ g ∧ g ≤ 2) (hs : s = zshl 1 g) : leadZ (M 171) (54 * a + 9 * l) s 9 = zks q (85 * a + 100) (3 * l + g) := by
  have u := hS.u
  have hB := hU.b (a := a) (b := 85 * a + 100) ⟨ha.1, by omega, ha.2⟩ rfl
  have e4 := zRows_n hB
  have h := link_k (l := l) (g := g) (zAX_of hI) ⟨ha.1, by omega, by omega⟩ (zhn hI) (zRows_q rfl hB) hl hg
  rw [hD.lead ⟨ha.1, by omega⟩ hl, hs, h, e4]
  unfold zks
  rw [show (3 * l + g) / 3 = l by omega, show (3 * l + g) % 3 = g by omega]
theorem zLK_o {M : Mem} {q : Int → Int} {a x c l : Int} (hI : Inv true M) (hD : LD M) (hS : zRN (M 164) q) (hU : zRU (M 164) q) (ha : 0 ≤ a ∧ a < q 3) (hc : 0 ≤ c ∧ c ≤ 5) (hl : 0 ≤ l ∧ l ≤ 5) : ovr (M 171) a x c l = zovZ (zks q (85 * a + 100)) c l x 3 := by
  have k : ∀ y g s : Int, 0 ≤ y ∧ y ≤ 5 → 0 ≤ g ∧ g ≤ 2 → s = zshl 1 g → leadZ (M 171) (54 * a + 9 * y) s 9 = zks q (85 * a + 100) (3 * y + g) := fun y g s hy hg hs => zLK_k hI hD hS hU ha hy hg hs
  unfold ovr ovt
  rw [k c 0 1 hc (by decide) (by decide +kernel), k c 1 2 hc (by decide) (by decide +kernel), k c 2 4 hc (by decide) (by decide +kernel), k l 0 1 hl (by decide) (by decide +kernel), k l 1 2 hl (by decide) (by decide +kernel), k l 2 4 hl (by decide) (by decide +kernel)]
  rfl
/-! the reference's words: what is pending, by places -/
def zBC (N : Mem) (L : Int) (g : Int → Int) : Nat → Int → Int → Prop
  | 0, m, _ => m = -1
  | k + 1, m, n => 0 ≤ m ∧ m < n ∧ N 172 (21 * L + m) = g (10 + 3 * (k : Int)) ∧ N 173 (21 * L + m) = g (11 + 3 * (k : Int)) ∧ N 175 m = g (12 + 3 * (k : Int)) ∧ zBC N L g k (N 174 m) m
def zAL (N : Mem) (L n : Int) (g : Int → Int) : Prop := N 172 (21 * L + n) = g 7 ∧ N 173 (21 * L + n) = g 8 ∧ 0 ≤ g 6 ∧ zBC N L g (g 6).toNat (N 174 n) n
theorem zBC.cg {M N : Mem} {L : Int} {g g' : Int → Int} : ∀ (k : Nat) (m n : Int), zBC M L g k m n → (∀ j, 0 ≤ j → j < n → N 172 (21 * L + j) = M 172 (21 * L + j) ∧ N 173 (21 * L + j) = M 173 (21 * L + j) ∧ N 175 j = M 175 j ∧ N 174 j = M 174 j) → (∀ i, 10 ≤ i → i < 10 + 3 * (k : Int) → g' i = g i) → zBC N L g' k m n
  | 0, _, _, h, _, _ => h
  | k + 1, m, n, h, hN, hg => by
    obtain ⟨h0, h1, h2, h3, h4, h5⟩ := h
    obtain ⟨e1, e2, e3, e4⟩ := hN m h0 h1
    refine ⟨h0, h1, e1.trans (h2.trans (hg _ (by omega) (by omega)).symm), e2.trans (h3.trans (hg _ (by omega) (by omega)).symm), e3.trans (h4.trans (hg _ (by omega) (by omega)).symm), ?_⟩
    rw [e4]
    exact zBC.cg k _ _ h5 (fun j a b => hN j a (by omega)) (fun i a b => hg i a (by omega))
theorem zBC.mono {N : Mem} {L m n n' : Int} {g : Int → Int} {k : Nat} (h : zBC N L g k m n) (e : n ≤ n') : zBC N L g k m n' := by
  cases k with
  | zero => exact h
  | succ k => exact ⟨h.1, by have := h.2.1; omega, h.2.2⟩
theorem zBC.no {N : Mem} {L m n : Int} {g : Int → Int} {k : Nat} (h : zBC N L g k m n) (e : m = -1) : k = 0 := by
  cases k with
  | zero => rfl
  | succ k => exact absurd h.1 (by omega)
theorem zBC.yes {N : Mem} {L m n : Int} {g : Int → Int} {k : Nat} (h : zBC N L g k m n) (e : ¬ m = -1) : ∃ k', k = k' + 1 := by
  cases k with
  | zero => exact absurd (show m = -1 from h) e
  | succ k => exact ⟨k, rfl⟩
theorem zAL.beg {N : Mem} {L b : Int} {q w : Int → Int} (h2 : N 172 (21 * L) = q (b + 2)) (h3 : N 173 (21 * L) = smeZ (q b)) (h4 : N 174 0 = -1) : zAL N L 0 (zfo q b w 0) := by
  refine ⟨?_, ?_, ?_, ?_⟩
  · rw [zfo_0, if_pos rfl, Int.add_zero]; exact h2
  · rw [zfo_0, if_neg (by decide), if_pos rfl, Int.add_zero]; exact h3
  · rw [zfo_0, if_neg (by decide), if_neg (by decide)]; exact Int.le_refl 0
  · rw [zfo_0, if_neg (by decide), if_neg (by decide)]; exact h4
theorem zAL.call {M N : Mem} {L n l ns so y z x v2 v3 v4 : Int} {g st K : Int → Int} (h : zAL M L n g) (hn : 0 ≤ n) (hs : so = 0) (hy : y = 21 * L + n + 1) (hz : z = 21 * L + n) (hx : x = n + 1) (u2 : UP M N 172 y v2) (u3 : UP M N 173 y v3) (u4 : UP M N 174 x v4) (u5 : UP M N 175 n l) (e2 : v2 = zmZ (M 172 z) (st l) 3) (e3 : v3 = smeZ ns) (e4 : v4 = n) : zAL N L (n + 1) (zse g st K ns l so) := by
  obtain ⟨a1, a2, a3, a4⟩ := h
  obtain ⟨s6, s7, s8, t1, t2, t3, o⟩ := zse_c (g := g) (st := st) (K := K) (ns := ns) (l := l) hs a3
  have g6 : ((g 6).toNat : Int) = g 6 := by omega
  refine ⟨?_, ?_, by rw [s6]; omega, ?_⟩
  · rw [show 21 * L + (n + 1) = y by omega, u2 y, if_pos rfl, e2, hz, a1, s7]
  · rw [show 21 * L + (n + 1) = y by omega, u3 y, if_pos rfl, e3, s8]
  · rw [s6, show (g 6 + 1).toNat = (g 6).toNat + 1 by omega, ← hx, u4 x, if_pos rfl, e4]
    refine ⟨hn, by omega, ?_, ?_, ?_, ?_⟩
    · rw [g6, t1, u2 _, if_neg (by omega)]; exact a1
    · rw [g6, t2, u3 _, if_neg (by omega)]; exact a2
    · rw [g6, t3, u5 _, if_pos rfl]
    · rw [u4 _, if_neg (by omega)]
      exact zBC.cg _ _ _ a4 (fun j p r => ⟨by rw [u2 _, if_neg (by omega)], by rw [u3 _, if_neg (by omega)], by rw [u5 _, if_neg (by omega)], by rw [u4 _, if_neg (by omega)]⟩) (fun i p r => o i p (by omega))
theorem zAL.back {M N : Mem} {L n l ns so y z z2 x v2 v3 v4 bb : Int} {g st K : Int → Int} (h : zAL M L n g) (hs : so = 1) (hm : ¬ M 174 n = -1) (hy : y = 21 * L + n + 1) (hz : z = 21 * L + n) (hz2 : z2 = 21 * L + M 174 n) (hx : x = n + 1) (u2 : UP M N 172 y v2) (u3 : UP M N 173 y v3) (u4 : UP M N 174 x v4) (u5 : UP M N 175 n l) (hb : bb = zovZ K (M 175 (M 174 n)) l (M 173 z) 3) (e2 : v2 = zmZ (M 172 z2) bb 3) (e3 : v3 = thnZ (M 173 z2) bb 9) (e4 : v4 = M 174 (M 174 n)) : zAL N L (n + 1) (zse g st K ns l so) := by
  obtain ⟨a1, a2, a3, a4⟩ := h
  obtain ⟨k, hk⟩ := a4.yes hm
  rw [hk] at a4
  obtain ⟨h0, h1, h2, h3, h4, h5⟩ := a4
  obtain ⟨s6, s7, s8, o⟩ := zse_b (g := g) (st := st) (K := K) (ns := ns) (l := l) hs (by omega)
  have k1 : g 6 - 1 = (k : Int) := by omega
  rw [k1] at s6 s7 s8
  have eb : bb = zovZ K (g (12 + 3 * (k : Int))) l (g 8) 3 := by rw [hb, hz, a2, h4]
  refine ⟨?_, ?_, by rw [s6]; omega, ?_⟩
  · rw [show 21 * L + (n + 1) = y by omega, u2 y, if_pos rfl, e2, hz2, h2, eb, s7]
  · rw [show 21 * L + (n + 1) = y by omega, u3 y, if_pos rfl, e3, hz2, h3, eb, s8]
  · rw [s6, Int.toNat_natCast, ← hx, u4 x, if_pos rfl, e4]
    exact (zBC.cg _ _ _ h5 (fun j p r => ⟨by rw [u2 _, if_neg (by omega)], by rw [u3 _, if_neg (by omega)], by rw [u5 _, if_neg (by omega)], by rw [u4 _, if_neg (by omega)]⟩) (fun i p _ => o i p)).mono (by omega)
theorem zAL.one {M N : Mem} {L n l ns so y z x v2 v3 v4 : Int} {g st K : Int → Int} (h : zAL M L n g) (hs : ¬ so = 0) (hm : so = 1 → M 174 n = -1) (hy : y = 21 * L + n + 1) (hz : z = 21 * L + n) (hx : x = n + 1) (u2 : UP M N 172 y v2) (u3 : UP M N 173 y v3) (u4 : UP M N 174 x v4) (u5 : UP M N 175 n l) (e2 : v2 = zmZ (M 172 z) (st l) 3) (e3 : v3 = thnZ (M 173 z) (st l) 9) (e4 : v4 = M 174 n) : zAL N L (n + 1) (zse g st K ns l so) := by
  obtain ⟨a1, a2, a3, a4⟩ := h
  have hs2 : ¬ (so = 1 ∧ 0 < g 6) := fun c => by
    have := a4.no (hm c.1)
    have := c.2
    omega
  obtain ⟨s6, s7, s8, o⟩ := zse_i (g := g) (st := st) (K := K) (ns := ns) (l := l) hs hs2
  refine ⟨?_, ?_, by rw [s6]; omega, ?_⟩
  · rw [show 21 * L + (n + 1) = y by omega, u2 y, if_pos rfl, e2, hz, a1, s7]
  · rw [show 21 * L + (n + 1) = y by omega, u3 y, if_pos rfl, e3, hz, a2, s8]
  · rw [s6, ← hx, u4 x, if_pos rfl, e4]
    exact (zBC.cg _ _ _ a4 (fun j p r => ⟨by rw [u2 _, if_neg (by omega)], by rw [u3 _, if_neg (by omega)], by rw [u5 _, if_neg (by omega)], by rw [u4 _, if_neg (by omega)]⟩) (fun i p _ => o i p)).mono (by omega)
theorem zAL.fo {N : Mem} {L i i' b l : Int} {q w : Int → Int} (h : zAL N L i' (zse (zfo q b w i.toNat) (zst q b) (zks q b) (q b) l (zsr q l))) (h0 : 0 ≤ i) (e : i' = i + 1) (hl : l = w i) : zAL N L i' (zfo q b w i'.toNat) := by
  subst e
  rw [zfo_s h0, ← hl]
  exact h
theorem zAL.r7 {N : Mem} {i n y b : Int} {q w : Int → Int} (h : zAL N 0 i (zfo q b w i.toNat)) (e : i = n) (ey : y = n) : N 172 y = zfo q b w n.toNat 7 := by
  subst e ey
  have h1 := h.1
  rw [show 21 * 0 + y = y by omega] at h1
  exact h1
