theorem fg1 {M N1 N2 : Mem} {a b : Int} (h1 : N1 = mu M a 0 0) (h2 : N2 = mu N1 b 0 0) : N2 a 0 = 0 ∧ N2 b 0 = 0 := by
  refine ⟨?_, by rw [h2, mu_s]⟩
  rw [h2]
  by_cases e : a = b
  · rw [e, mu_s]
  · rw [mu_c e, h1, mu_s]
/-! the kept tables of the live checker: what the law's walk keeps -/
theorem zRB.e4 {f q q2 : Int → Int} {b : Int} (h : zRB f q b) (h2 : zRB f q2 b) : q2 b = q b ∧ q2 (b + 2) = q (b + 2) ∧ q2 (b + 4) = q (b + 4) := ⟨h2.1.symm.trans h.1, h2.2.2.1.symm.trans h.2.2.1, h2.2.2.2.2.1.symm.trans h.2.2.2.2.1⟩
theorem zRB.er {f q q2 : Int → Int} {b k : Int} (h : zRB f q b) (h2 : zRB f q2 b) (k0 : 0 ≤ k) (k1 : k < q (b + 4)) : q2 (b + 5 + 4 * k) = q (b + 5 + 4 * k) ∧ q2 (b + 6 + 4 * k) = q (b + 6 + 4 * k) ∧ q2 (b + 7 + 4 * k) = q (b + 7 + 4 * k) ∧ q2 (b + 8 + 4 * k) = q (b + 8 + 4 * k) := by
  have e := (h.e4 h2).2.2
  obtain ⟨a1, a2, a3, a4⟩ := h.2.2.2.2.2 k k0 k1
  obtain ⟨c1, c2, c3, c4⟩ := h2.2.2.2.2.2 k k0 (by rw [e]; exact k1)
  exact ⟨c1.symm.trans a1, c2.symm.trans a2, c3.symm.trans a3, c4.symm.trans a4⟩
theorem zTQA.cg {f q q2 : Int → Int} {b : Int} (hS : zRN f q) (hS2 : zRN f q2) (h : zRB f q b) (h2 : zRB f q2 b) : zTQA q2 b = zTQA q b := by
  have u := hS.u
  have v := hS2.u
  have e0 : q2 0 = q 0 := v.1.symm.trans u.1
  have e1 : q2 1 = q 1 := v.2.1.symm.trans u.2.1
  have e2 : q2 2 = q 2 := v.2.2.1.symm.trans u.2.2.1
  obtain ⟨f0, f2, f4⟩ := h.e4 h2
  have r : ∀ j : Int, 0 ≤ j → j < ((q (b + 4)).toNat : Int) → _ := fun j j0 j1 => h.er h2 j0 (by omega)
  have s : zst q2 b = zst q b := funext (fun l => by
    unfold zst
    rw [f4]
    exact zsF.cg e0 _ (fun j j0 j1 => r j j0 j1))
  have k : zks q2 b = zks q b := funext (fun l => by
    unfold zks
    rw [f4]
    exact zkF.cg _ (fun j j0 j1 => r j j0 j1))
  unfold zTQA
  rw [s, k, e0, e1, e2, f0, f2]
theorem zTC.cg {M : Mem} {c : Int} {f q q2 : Int → Int} (h : zTC M c q) (hS : zRN f q) (hU : zRU f q) (hS2 : zRN f q2) (hU2 : zRU f q2) : zTC M c q2 := by
  have e3 : q2 3 = q 3 := hS2.u.2.2.2.1.symm.trans hS.u.2.2.2.1
  refine ⟨fun a d => ?_, fun a d => ?_⟩
  · rw [e3] at a
    rw [zTQA.cg hS hS2 (hU.1 a) (hU2.1 (by rw [e3]; exact a))]
    exact h.1 a d
  · rw [e3] at a
    rw [zTQA.cg hS hS2 (hU.2 a) (hU2.2 (by rw [e3]; exact a))]
    exact h.2 a d
def zTL (M N : Mem) : Prop := zTF M 0 ∧ ∀ q, zQV q → zRN (N 164) q → zRU (N 164) q → zTC M 0 q
theorem zTL.fr {L : List (Nat × Int)} {M M' N U : Mem} (h : zTL M N) (hI : Inv false M) (hF : Fr L M M') (hl : (tfL L && tcL L) = true) (e : ∀ i, (i < 4 ∨ 100 ≤ i) → i < 272 → U 164 i = N 164 i) : zTL M' U := by
  rw [Bool.and_eq_true] at hl
  refine ⟨h.1.fr zk_0 hF hl.1, fun q hV hS hU => (h.2 q hV (hS.cg (fun i a b => (e i (Or.inl b) (by omega)).symm)) (hU.cg (fun i a b => (e i (Or.inr a) (by omega)).symm) hV)).fr hI zk_0 hF hl.2⟩
theorem zTL.q {L : List (Nat × Int)} {M M' N U : Mem} {q : Int → Int} (h : zTL M N) (hF : Fr L M M') (hl : tfL L = true) (hK : zTC M' 0 q) (hS : zRN (U 164) q) (hU : zRU (U 164) q) : zTL M' U :=
  ⟨h.1.fr zk_0 hF hl, fun q2 _ hS2 hU2 => hK.cg hS hU hS2 hU2⟩
theorem zTL.all {L : List (Nat × Int)} {M M' N U : Mem} (h : zTL M N) (hF : Fr L M M') (hl : tfL L = true) (hK : ∀ q, zTC M' 0 q) : zTL M' U := ⟨h.1.fr zk_0 hF hl, fun q _ _ _ => hK q⟩
theorem zTL.same {L : List (Nat × Int)} {M M' N U : Mem} (h : zTL M N) (hF : Fr L M M') (hl : tfL L = true) (hK : ∀ q, zTC M 0 q → zTC M' 0 q) (e : ∀ i, 0 ≤ i → i < 272 → U 164 i = N 164 i) : zTL M' U :=
  ⟨h.1.fr zk_0 hF hl, fun q hV hS hU => hK q (h.2 q hV (hS.cg (fun i a b => (e i a (by omega)).symm)) (hU.cg (fun i a b => (e i (by omega) (by omega)).symm) hV))⟩
theorem m0_tl : zTL M0 M0 := ⟨⟨rfl, rfl, rfl, rfl, rfl, rfl, rfl, rfl, rfl, rfl⟩, fun q _ _ _ => zTC.no (by decide +kernel) (by decide +kernel)⟩
