/-! two readings of one part are alike -/
theorem zLM.cg {Bt : Int → Int} {t q : Int → Int} {j a1 : Int} {fk fp fk' fp' : Int} (h : zLM Bt t q j a1 1 fk fp) : zLM Bt t q j a1 1 fk' fp' := by
  unfold zLM at h ⊢
  rcases h with h | h | h | h | h | h
  · exact absurd h.1 (by decide)
  · exact absurd h.1 (by decide)
  · exact absurd h.1 (by decide)
  · exact absurd h.1 (by decide)
  · exact absurd h.1 (by decide)
  · exact (Or.inr (Or.inr (Or.inr (Or.inr (Or.inr (h))))))
set_option maxHeartbeats 4000000 in
theorem zLM.u {Bt : Int → Int} {t q : Int → Int} {j a1 : Int} {r fk fp r' fk' fp' : Int} (h : zLM Bt t q j a1 r fk fp) (h' : zLM Bt t q j a1 r' fk' fp') : r = r' ∧ (r = 0 → fk = fk' ∧ fp = fp') := by
  unfold zLM at h h'
  rcases h with h | h | h | h | h | h <;> rcases h' with h' | h' | h' | h' | h' | h' <;> omega
theorem zLM.q {Bt : Int → Int} {t q : Int → Int} {j a1 : Int} {fk fp : Int} (h : zLM Bt t q j a1 1 fk fp) : q 3 = 0 ∧ q a1 ≤ 1 := by
  unfold zLM at h
  rcases h with h | h | h | h | h | h <;> omega
theorem zAM.cg {Bt : Int → Int} {q : Int → Int} {j : Int} {fk fp fk' fp' : Int} (h : zAM Bt q j 1 fk fp) : zAM Bt q j 1 fk' fp' := by
  unfold zAM at h ⊢
  rcases h with h | h | h | h | h | h | h | h | h | h | h | h
  · exact absurd h.1 (by decide)
  · exact absurd h.1 (by decide)
  · exact absurd h.1 (by decide)
  · exact absurd h.1 (by decide)
  · exact absurd h.1 (by decide)
  · exact absurd h.1 (by decide)
  · exact absurd h.1 (by decide)
  · exact absurd h.1 (by decide)
  · exact absurd h.1 (by decide)
  · exact absurd h.1 (by decide)
  · exact absurd h.1 (by decide)
  · exact (Or.inr (Or.inr (Or.inr (Or.inr (Or.inr (Or.inr (Or.inr (Or.inr (Or.inr (Or.inr (Or.inr (h))))))))))))
set_option maxHeartbeats 4000000 in
theorem zAM.u {Bt : Int → Int} {q : Int → Int} {j : Int} {r fk fp r' fk' fp' : Int} (h : zAM Bt q j r fk fp) (h' : zAM Bt q j r' fk' fp') : r = r' ∧ (r = 0 → fk = fk' ∧ fp = fp') := by
  unfold zAM at h h'
  rcases h with h | h | h | h | h | h | h | h | h | h | h | h <;> rcases h' with h' | h' | h' | h' | h' | h' | h' | h' | h' | h' | h' | h' <;> omega
theorem zAM.q {Bt : Int → Int} {q : Int → Int} {j : Int} {fk fp : Int} (h : zAM Bt q j 1 fk fp) : q 3 ≤ 1 := by
  unfold zAM at h
  rcases h with h | h | h | h | h | h | h | h | h | h | h | h <;> omega
theorem zRM.cg {Bt : Int → Int} {t q : Int → Int} {b j : Int} {fk fp fk' fp' e sy : Int} (h : zRM Bt t q b j 1 fk fp e sy) : zRM Bt t q b j 1 fk' fp' e sy := by
  unfold zRM at h ⊢
  rcases h with h | h | h | h | h | h | h | h | h | h | h | h | h | h | h | h | h | h | h | h | h | h | h | h
  · exact absurd h.1 (by decide)
  · exact absurd h.1 (by decide)
  · exact absurd h.1 (by decide)
  · exact absurd h.1 (by decide)
  · exact absurd h.1 (by decide)
  · exact absurd h.1 (by decide)
  · exact absurd h.1 (by decide)
  · exact absurd h.1 (by decide)
  · exact absurd h.1 (by decide)
  · exact absurd h.1 (by decide)
  · exact (Or.inr (Or.inr (Or.inr (Or.inr (Or.inr (Or.inr (Or.inr (Or.inr (Or.inr (Or.inr (Or.inl h)))))))))))
  · exact absurd h.1 (by decide)
  · exact absurd h.1 (by decide)
  · exact absurd h.1 (by decide)
  · exact absurd h.1 (by decide)
  · exact absurd h.1 (by decide)
  · exact (Or.inr (Or.inr (Or.inr (Or.inr (Or.inr (Or.inr (Or.inr (Or.inr (Or.inr (Or.inr (Or.inr (Or.inr (Or.inr (Or.inr (Or.inr (Or.inr (Or.inl h)))))))))))))))))
  · exact absurd h.1 (by decide)
  · exact absurd h.1 (by decide)
  · exact absurd h.1 (by decide)
  · exact absurd h.1 (by decide)
  · exact absurd h.1 (by decide)
  · exact (Or.inr (Or.inr (Or.inr (Or.inr (Or.inr (Or.inr (Or.inr (Or.inr (Or.inr (Or.inr (Or.inr (Or.inr (Or.inr (Or.inr (Or.inr (Or.inr (Or.inr (Or.inr (Or.inr (Or.inr (Or.inr (Or.inr (Or.inl h)))))))))))))))))))))))
  · exact (Or.inr (Or.inr (Or.inr (Or.inr (Or.inr (Or.inr (Or.inr (Or.inr (Or.inr (Or.inr (Or.inr (Or.inr (Or.inr (Or.inr (Or.inr (Or.inr (Or.inr (Or.inr (Or.inr (Or.inr (Or.inr (Or.inr (Or.inr (h))))))))))))))))))))))))
set_option maxHeartbeats 4000000 in
theorem zRM.u {Bt : Int → Int} {t q : Int → Int} {b j : Int} {r fk fp r' fk' fp' e sy e' sy' : Int} (h : zRM Bt t q b j r fk fp e sy) (h' : zRM Bt t q b j r' fk' fp' e' sy') : r = r' ∧ (r = 0 → fk = fk' ∧ fp = fp') ∧ (r = 1 → e = e' ∧ sy = sy') := by
  unfold zRM at h h'
  rcases h with h | h | h | h | h | h | h | h | h | h | h | h | h | h | h | h | h | h | h | h | h | h | h | h <;> rcases h' with h' | h' | h' | h' | h' | h' | h' | h' | h' | h' | h' | h' | h' | h' | h' | h' | h' | h' | h' | h' | h' | h' | h' | h' <;> omega
theorem zRM.q {Bt : Int → Int} {t q : Int → Int} {b j : Int} {fk fp e sy : Int} (h : zRM Bt t q b j 1 fk fp e sy) : q (b + 4) ≤ 19 ∧ j + 4 ≤ e := by
  unfold zRM at h
  rcases h with h | h | h | h | h | h | h | h | h | h | h | h | h | h | h | h | h | h | h | h | h | h | h | h <;> omega
theorem zEN.u {B : Int → Int} {e z r fk fp r' fk' fp' : Int} (h : zEN B e z r fk fp) (h' : zEN B e z r' fk' fp') : r = r' ∧ (r = 0 → fk = fk' ∧ fp = fp') := by
  have := tbd_c B e
  unfold zEN at h h'
  rcases h with h | h | h | h <;> rcases h' with h' | h' | h' | h' <;> omega
theorem zEN.r {B : Int → Int} {e z r fk fp : Int} (h : zEN B e z r fk fp) : r = 0 ∨ r = 1 := by
  unfold zEN at h
  rcases h with h | h | h | h <;> omega
theorem zLR.e {B t q : Int → Int} {j a r fk fp fk' fp' r' : Int} (h : zLM B t q j a r fk fp) (hr : r = 1) (he : zEN B (j + 2) 0 r' fk' fp') : zLR B t q j a r' fk' fp' := by
  subst hr; exact Or.inr ⟨h.cg, he⟩
theorem zAR.e {B q : Int → Int} {j r fk fp fk' fp' r' : Int} (h : zAM B q j r fk fp) (hr : r = 1) (he : zEN B (j + 4) 0 r' fk' fp') : zAR B q j r' fk' fp' := by
  subst hr; exact Or.inr ⟨h.cg, he⟩
theorem zLR.u {B t q : Int → Int} {j a r fk fp r' fk' fp' : Int} (h : zLR B t q j a r fk fp) (h' : zLR B t q j a r' fk' fp') : r = r' ∧ (r = 0 → fk = fk' ∧ fp = fp') := by
  rcases h with ⟨a1, a2⟩ | ⟨a1, a2⟩ <;> rcases h' with ⟨b1, b2⟩ | ⟨b1, b2⟩
  · have := a2.u b2; omega
  · have := a2.u b1; omega
  · have := a1.u b2; omega
  · exact a2.u b2
theorem zAR.u {B q : Int → Int} {j r fk fp r' fk' fp' : Int} (h : zAR B q j r fk fp) (h' : zAR B q j r' fk' fp') : r = r' ∧ (r = 0 → fk = fk' ∧ fp = fp') := by
  rcases h with ⟨a1, a2⟩ | ⟨a1, a2⟩ <;> rcases h' with ⟨b1, b2⟩ | ⟨b1, b2⟩
  · have := a2.u b2; omega
  · have := a2.u b1; omega
  · have := a1.u b2; omega
  · exact a2.u b2
theorem zRR.u {B t q : Int → Int} {b j r fk fp e y r' fk' fp' e' y' : Int} (h : zRR B t q b j r fk fp e y) (h' : zRR B t q b j r' fk' fp' e' y') : r = r' ∧ (r = 0 → fk = fk' ∧ fp = fp') ∧ (r = 1 → e = e' ∧ y = y') := by
  rcases h with ⟨a1, a2⟩ | ⟨a1, a2⟩ <;> rcases h' with ⟨b1, b2⟩ | ⟨b1, b2⟩
  · have := a2.u b2; omega
  · have := a2.u b1; omega
  · have := a1.u b2; omega
  · obtain ⟨-, -, c⟩ := a1.u b1
    obtain ⟨c1, c2⟩ := c rfl
    subst c1 c2
    obtain ⟨d1, d2⟩ := a2.u b2
    exact ⟨d1, d2, fun _ => ⟨rfl, rfl⟩⟩
theorem zLR.r {B t q : Int → Int} {j a r fk fp : Int} (h : zLR B t q j a r fk fp) : r = 0 ∨ r = 1 := by
  rcases h with h | h
  · exact Or.inl h.1
  · exact h.2.r
theorem zLR.q {B t q : Int → Int} {j a fk fp : Int} (h : zLR B t q j a 1 fk fp) : q 3 = 0 ∧ q a ≤ 1 := by
  rcases h with h | h
  · exact absurd h.1 (by decide)
  · exact h.1.q
theorem zAR.q {B q : Int → Int} {j fk fp : Int} (h : zAR B q j 1 fk fp) : q 3 ≤ 1 := by
  rcases h with h | h
  · exact absurd h.1 (by decide)
  · exact h.1.q
theorem zRR.q {B t q : Int → Int} {b j fk fp e y : Int} (h : zRR B t q b j 1 fk fp e y) : q (b + 4) ≤ 19 ∧ j + 4 ≤ e := by
  rcases h with h | h
  · exact absurd h.1 (by decide)
  · exact h.1.q
/-- what becomes of a part -/
def zPS (B t q : Int → Int) (j r fk fp e : Int) (q2 t2 : Int → Int) : Prop :=
  (0 ≤ kwd B j ∧ kwd B j ≤ 2 ∧ zLR B t q j (kwd B j) r fk fp ∧ e = j + 2 ∧ q2 = upk q (kwd B j) (q (kwd B j) + 1) ∧ t2 = upk t (2 * kwd B j + q (kwd B j)) (j + 1)) ∨
  (kwd B j = 3 ∧ zAR B q j r fk fp ∧ e = j + 4 ∧ q2 = uaut q (tv B (j + 1)) (tv B (j + 3)) ∧ t2 = t) ∨
  (4 ≤ kwd B j ∧ kwd B j ≤ 5 ∧ 1 ≤ q 3 ∧ (∃ s, SR B (q (15 + 85 * q 3)) j (q (15 + 85 * q 3 + (kwd B j - 2))) e s r fk fp ∧ q2 = upk q (15 + 85 * q 3 + (kwd B j - 2)) s) ∧ t2 = t) ∨
  (kwd B j = 6 ∧ 1 ≤ q 3 ∧ (∃ y, zRR B t q (15 + 85 * q 3) j r fk fp e y ∧ q2 = uprul q (15 + 85 * q 3) (lfn B t (q 0) (q 1) (q 2) (j + 1)) (tv B (j + 2)) (tv B (j + 3)) y) ∧ t2 = t) ∨
  ((kwd B j < 0 ∨ 6 < kwd B j ∨ (3 < kwd B j ∧ q 3 ≤ 0)) ∧ r = 0 ∧ fk = 2 ∧ fp = tp B j)
theorem zPS.n {B t q : Int → Int} {j r fk fp e : Int} {q2 t2 : Int → Int} (h : kwd B j < 0 ∨ 6 < kwd B j ∨ (3 < kwd B j ∧ q 3 ≤ 0)) (hr : r = 0) (hf : fk = 2) (hp : fp = tp B j) : zPS B t q j r fk fp e q2 t2 := Or.inr (Or.inr (Or.inr (Or.inr ⟨h, hr, hf, hp⟩)))
theorem zPS.u {B t q : Int → Int} {j r fk fp e r' fk' fp' e' : Int} {q2 t2 q2' t2' : Int → Int} (h : zPS B t q j r fk fp e q2 t2) (h' : zPS B t q j r' fk' fp' e' q2' t2') : r = r' ∧ (r = 0 → fk = fk' ∧ fp = fp') ∧ (r = 1 → e = e' ∧ q2 = q2' ∧ t2 = t2') := by
  rcases h with ⟨a0, a1, a2, a3, a4, a5⟩ | ⟨a0, a2, a3, a4, a5⟩ | ⟨a0, a1, a2, ⟨s, a3, a4⟩, a5⟩ | ⟨a0, a2, ⟨s, a3, a4⟩, a5⟩ | ⟨a0, a1, a2, a3⟩ <;> rcases h' with ⟨b0, b1, b2, b3, b4, b5⟩ | ⟨b0, b2, b3, b4, b5⟩ | ⟨b0, b1, b2, ⟨s', b3, b4⟩, b5⟩ | ⟨b0, b2, ⟨s', b3, b4⟩, b5⟩ | ⟨b0, b1, b2, b3⟩
  · have c := a2.u b2; exact ⟨c.1, c.2, fun _ => ⟨a3.trans b3.symm, a4.trans b4.symm, a5.trans b5.symm⟩⟩
  · exfalso; omega
  · exfalso; omega
  · exfalso; omega
  · exfalso; omega
  · exfalso; omega
  · have c := a2.u b2; exact ⟨c.1, c.2, fun _ => ⟨a3.trans b3.symm, a4.trans b4.symm, a5.trans b5.symm⟩⟩
  · exfalso; omega
  · exfalso; omega
  · exfalso; omega
  · exfalso; omega
  · exfalso; omega
  · obtain ⟨c1, c2, c3, c4⟩ := a3.u b3
    subst c2
    exact ⟨c3, c4, fun _ => ⟨c1, a4.trans b4.symm, a5.trans b5.symm⟩⟩
  · exfalso; omega
  · exfalso; omega
  · exfalso; omega
  · exfalso; omega
  · exfalso; omega
  · obtain ⟨c1, c2, c3⟩ := a3.u b3
    refine ⟨c1, c2, fun hr => ?_⟩
    obtain ⟨d1, d2⟩ := c3 hr
    subst d2
    exact ⟨d1, a4.trans b4.symm, a5.trans b5.symm⟩
  · exfalso; omega
  · exfalso; omega
  · exfalso; omega
  · exfalso; omega
  · exfalso; omega
  · exact ⟨a1.trans b1.symm, fun _ => ⟨a2.trans b2.symm, a3.trans b3.symm⟩, fun hr => by omega⟩
/-- a part that goes well begins with a keyword and goes on behind it -/
theorem zPS.k {B t q : Int → Int} {j fk fp e : Int} {q2 t2 : Int → Int} (h : zPS B t q j 1 fk fp e q2 t2) : 0 ≤ kwd B j ∧ j < e := by
  rcases h with ⟨a0, a1, a2, a3, a4, a5⟩ | ⟨a0, a2, a3, a4, a5⟩ | ⟨a0, a1, a2, ⟨s, a3, a4⟩, a5⟩ | ⟨a0, a2, ⟨s, a3, a4⟩, a5⟩ | ⟨a0, a1, a2, a3⟩
  · omega
  · omega
  · obtain ⟨k, c1, c2, c3⟩ := a3
    omega
  · have := a3.q
    omega
  · omega
/-- what is kept of the numbers of a checker that is read -/
def zQV (q : Int → Int) : Prop := 0 ≤ q 3 ∧ q 3 ≤ 2 ∧ 0 ≤ q 104 ∧ q 104 ≤ 20 ∧ 0 ≤ q 189 ∧ q 189 ≤ 20
theorem zQV.ps {B t q : Int → Int} {j fk fp e : Int} {q2 t2 : Int → Int} (h : zPS B t q j 1 fk fp e q2 t2) (hq : zQV q) : zQV q2 := by
  obtain ⟨h1, h2, h3, h4, h5, h6⟩ := hq
  have e3 : q 3 = 0 ∨ q 3 = 1 ∨ q 3 = 2 := by omega
  rcases h with ⟨a0, a1, a2, a3, a4, a5⟩ | ⟨a0, a2, a3, a4, a5⟩ | ⟨a0, a1, a2, ⟨s, a3, a4⟩, a5⟩ | ⟨a0, a2, ⟨y, a3, a4⟩, a5⟩ | ⟨a0, a1, a2, a3⟩
  · subst a4
    unfold zQV
    rw [upk_o (by omega), upk_o (by omega), upk_o (by omega)]
    exact ⟨h1, h2, h3, h4, h5, h6⟩
  · subst a4
    have := a2.q
    have u3 := uaut_3 (q := q) (s := tv B (j + 1)) (g := tv B (j + 3)) h1
    unfold zQV
    rw [u3]
    rcases e3 with e3 | e3 | e3
    · have c4 : uaut q (tv B (j + 1)) (tv B (j + 3)) 104 = 0 := by unfold uaut upclr; rw [if_neg (by omega), if_neg (by omega), if_pos (by omega)]
      rw [c4, uaut_o (i := 189) (by decide) (by omega)]
      omega
    · have c4 : uaut q (tv B (j + 1)) (tv B (j + 3)) 189 = 0 := by unfold uaut upclr; rw [if_neg (by omega), if_neg (by omega), if_pos (by omega)]
      rw [c4, uaut_o (i := 104) (by decide) (by omega)]
      omega
    · omega
  · subst a4
    unfold zQV
    rw [upk_o (by omega), upk_o (by omega), upk_o (by omega)]
    exact ⟨h1, h2, h3, h4, h5, h6⟩
  · subst a4
    have := a3.q
    unfold zQV
    rcases e3 with e3 | e3 | e3
    · omega
    · rw [e3] at this ⊢
      have v : q ((15 + 85 * 1 : Int) + 4) = q 104 := rfl
      rw [v] at this
      have w : ∀ i, i = 3 ∨ i = 189 → uprul q (15 + 85 * 1) (lfn B t (q 0) (q 1) (q 2) (j + 1)) (tv B (j + 2)) (tv B (j + 3)) y i = q i := fun i hi => by
        unfold uprul; rw [v, if_neg (by omega), if_neg (by omega), if_neg (by omega), if_neg (by omega), if_neg (by omega)]
      have w4 : uprul q (15 + 85 * 1) (lfn B t (q 0) (q 1) (q 2) (j + 1)) (tv B (j + 2)) (tv B (j + 3)) y 104 = q 104 + 1 := by
          unfold uprul; rw [if_pos (by decide), v]
      rw [w 3 (Or.inl rfl), w 189 (Or.inr rfl), w4]
      omega
    · rw [e3] at this ⊢
      have v : q ((15 + 85 * 2 : Int) + 4) = q 189 := rfl
      rw [v] at this
      have w : ∀ i, i = 3 ∨ i = 104 → uprul q (15 + 85 * 2) (lfn B t (q 0) (q 1) (q 2) (j + 1)) (tv B (j + 2)) (tv B (j + 3)) y i = q i := fun i hi => by
        unfold uprul; rw [v, if_neg (by omega), if_neg (by omega), if_neg (by omega), if_neg (by omega), if_neg (by omega)]
      have w4 : uprul q (15 + 85 * 2) (lfn B t (q 0) (q 1) (q 2) (j + 1)) (tv B (j + 2)) (tv B (j + 3)) y 189 = q 189 + 1 := by
          unfold uprul; rw [if_pos (by decide), v]
      rw [w 3 (Or.inl rfl), w 104 (Or.inr rfl), w4]
      omega
  · omega
/-- parts that go well, from the first token on -/
def zCH (B : Int → Int) : Nat → Int → (Int → Int) → (Int → Int) → Prop
  | 0, j, q, t => j = 0 ∧ q = (fun _ => 0) ∧ t = (fun _ => 0)
  | k + 1, j, q, t => ∃ j1 q1 t1 fk fp e, zCH B k j1 q1 t1 ∧ zPS B t1 q1 j1 1 fk fp e q t ∧ j = e + 1
theorem zCH.u {B : Int → Int} : ∀ (k : Nat) {j j' : Int} {q t q' t' : Int → Int}, zCH B k j q t → zCH B k j' q' t' → j = j' ∧ q = q' ∧ t = t'
  | 0, _, _, _, _, _, _, ⟨a, b, c⟩, ⟨a', b', c'⟩ => ⟨a.trans a'.symm, b.trans b'.symm, c.trans c'.symm⟩
  | k + 1, _, _, _, _, _, _, ⟨j1, q1, t1, fk, fp, e, a, b, c⟩, ⟨j1', q1', t1', fk', fp', e', a', b', c'⟩ => by
    obtain ⟨x1, x2, x3⟩ := zCH.u k a a'
    subst x1 x2 x3
    obtain ⟨-, -, y⟩ := b.u b'
    obtain ⟨y1, y2, y3⟩ := y rfl
    exact ⟨by omega, y2, y3⟩
theorem zCH.v {B : Int → Int} : ∀ (k : Nat) {j : Int} {q t : Int → Int}, zCH B k j q t → 0 ≤ j ∧ zQV q
  | 0, _, _, _, ⟨a, b, _⟩ => by subst a b; exact ⟨by decide, by decide, by decide, by decide, by decide, by decide, by decide⟩
  | k + 1, _, _, _, ⟨j1, q1, t1, fk, fp, e, a, b, c⟩ => by
    have h := zCH.v k a
    have := b.k
    exact ⟨by omega, zQV.ps b h.2⟩
theorem zCH.pre {B : Int → Int} {k' : Nat} : ∀ (k : Nat) {j : Int} {q t : Int → Int}, zCH B k j q t → k' < k → ∃ j1 q1 t1 fk fp e q2 t2, zCH B k' j1 q1 t1 ∧ zPS B t1 q1 j1 1 fk fp e q2 t2
  | 0, _, _, _, _, h => absurd h (Nat.not_lt_zero _)
  | k + 1, _, q, t, ⟨j1, q1, t1, fk, fp, e, a, b, _⟩, h => by
    by_cases z : k' = k
    · subst z; exact ⟨j1, q1, t1, fk, fp, e, q, t, a, b⟩
    · exact zCH.pre k a (by omega)
/-- where the reading of a text ends -/
def zTm (B t q : Int → Int) (j fk fp : Int) : Prop := (tbd B j = 1 ∧ fk = 1 ∧ fp = tp B j) ∨ (tbd B j = 0 ∧ tk B j ≠ 0 ∧ ∃ e q2 t2, zPS B t q j 0 fk fp e q2 t2) ∨ (tk B j = 0 ∧ fk = 0 ∧ fp = -1)
theorem zTm.not {B t q : Int → Int} {j fk fp fk' fp' e : Int} {q2 t2 : Int → Int} (h : zTm B t q j fk fp) (h' : zPS B t q j 1 fk' fp' e q2 t2) : False := by
  have k := h'.k
  have k1 := kwd_t (B := B) (j := j) (by omega)
  have k2 := kwd_b (B := B) (j := j) (by omega)
  rcases h with a | ⟨-, -, e', q2', t2', a⟩ | a
  · omega
  · have := (a.u h').1
    omega
  · omega
theorem zTm.u {B t q : Int → Int} {j fk fp fk' fp' : Int} (h : zTm B t q j fk fp) (h' : zTm B t q j fk' fp') : fk = fk' ∧ fp = fp' := by
  have := tbd_c B j
  rcases h with a | ⟨a1, a2, e, q2, t2, a⟩ | a <;> rcases h' with b | ⟨b1, b2, e', q2', t2', b⟩ | b
  · omega
  · omega
  · omega
  · omega
  · exact (a.u b).2.1 rfl
  · omega
  · omega
  · omega
  · omega
/-- what the reading of a text comes to -/
def zOUT (B : Int → Int) (fk fp : Int) (q t : Int → Int) : Prop := ∃ (k : Nat) (j : Int), zCH B k j q t ∧ zTm B t q j fk fp
theorem zOUT.u {B q t q' t' : Int → Int} {fk fp fk' fp' : Int} (h : zOUT B fk fp q t) (h' : zOUT B fk' fp' q' t') : fk = fk' ∧ fp = fp' ∧ q = q' ∧ t = t' := by
  obtain ⟨k, j, a, b⟩ := h
  obtain ⟨k', j', a', b'⟩ := h'
  rcases Nat.lt_trichotomy k k' with z | z | z
  · obtain ⟨j1, q1, t1, x1, x2, x3, q2, t2, y1, y2⟩ := zCH.pre k' a' z
    obtain ⟨e1, e2, e3⟩ := zCH.u k a y1
    subst e1 e2 e3
    exact (b.not y2).elim
  · subst z
    obtain ⟨e1, e2, e3⟩ := zCH.u k a a'
    subst e1 e2 e3
    obtain ⟨f1, f2⟩ := b.u b'
    exact ⟨f1, f2, rfl, rfl⟩
  · obtain ⟨j1, q1, t1, x1, x2, x3, q2, t2, y1, y2⟩ := zCH.pre k a z
    obtain ⟨e1, e2, e3⟩ := zCH.u k' a' y1
    subst e1 e2 e3
    exact (b'.not y2).elim
theorem tq_m {B : Int → Int} {n : Int} (hT : TX B n) (hn : 0 ≤ n) {j : Int} (hj : 0 ≤ j) : ∀ (k : Nat), tq B j ≤ tq B (j + (k : Int))
  | 0 => by rw [show j + ((0 : Nat) : Int) = j by omega]; exact Int.le_refl _
  | k + 1 => by
    have h1 := tq_m hT hn hj k
    have h2 := (tp_s hT (i := j + (k : Int)) (j := j + ((k + 1 : Nat) : Int)) (by omega) (by omega)).1
    have h3 := tp_le hT hn (j := j + ((k + 1 : Nat) : Int)) (by omega)
    omega
/-- a part that goes well takes some bytes -/
theorem zPS.g {B t q : Int → Int} {j fk fp e n : Int} {q2 t2 : Int → Int} (h : zPS B t q j 1 fk fp e q2 t2) (hT : TX B n) (hn : 0 ≤ n) (hj : 0 ≤ j) {i : Int} (hi : i = j - 1) : tq B i + 1 ≤ tq B e ∧ tq B e ≤ n := by
  have k := h.k
  have k1 := kwd_t (B := B) (j := j) (by omega)
  have h1 := (tp_s hT hj hi).1
  have h2 := tq_end hT hj
  have h3 := tq_m hT hn hj (e - j).toNat
  have h4 := tp_le hT hn (j := e) (by omega)
  rw [show j + (((e - j).toNat : Nat) : Int) = e by omega] at h3
  omega
