/-! the two tables that are kept: known ones are the live automata's -/
def zTF (M : Mem) (c : Int) : Prop := M c 8 = 10 ∧ M c 9 = 15 ∧ M 10 2 = 11 ∧ M 10 3 = 12 ∧ M 10 4 = 13 ∧ M 10 5 = 14 ∧ M 15 2 = 16 ∧ M 15 3 = 17 ∧ M 15 4 = 18 ∧ M 15 5 = 19
theorem kd_10 : kd 10 = 21 := by decide +kernel
theorem kd_15 : kd 15 = 21 := by decide +kernel
def tfL (L : List (Nat × Int)) : Bool := !(fin L 62 8) && !(fin L 62 9) && !(fin L 21 2) && !(fin L 21 3) && !(fin L 21 4) && !(fin L 21 5)
theorem zTF.fr {L : List (Nat × Int)} {M N : Mem} {c : Int} (h : zTF M c) (hk : kd c = 62) (hF : Fr L M N) (hl : tfL L = true) : zTF N c := by
  unfold tfL at hl
  simp only [Bool.and_eq_true, Bool.not_eq_true'] at hl
  obtain ⟨⟨⟨⟨⟨a, b⟩, d⟩, e⟩, f⟩, g⟩ := hl
  obtain ⟨h1, h2, h3, h4, h5, h6, h7, h8, h9, h0⟩ := h
  exact ⟨(hF.e hk 8 a).trans h1, (hF.e hk 9 b).trans h2, (hF.e kd_10 2 d).trans h3, (hF.e kd_10 3 e).trans h4, (hF.e kd_10 4 f).trans h5, (hF.e kd_10 5 g).trans h6, (hF.e kd_15 2 d).trans h7, (hF.e kd_15 3 e).trans h8, (hF.e kd_15 4 f).trans h9, (hF.e kd_15 5 g).trans h0⟩
def zTC (M : Mem) (c : Int) (q : Int → Int) : Prop := (0 < q 3 → M (M c 8) 0 = 1 → zTV M (M c 8) (zTQA q 100)) ∧ (1 < q 3 → M (M c 9) 0 = 1 → zTV M (M c 9) (zTQA q 185))
theorem zTC.no {M : Mem} {c : Int} {q : Int → Int} (h1 : M (M c 8) 0 = 0) (h2 : M (M c 9) 0 = 0) : zTC M c q := ⟨fun _ a => absurd a (by omega), fun _ a => absurd a (by omega)⟩
theorem zTV.fr {L : List (Nat × Int)} {M N : Mem} {t : Int} {T : zT3} (h : zTV M t T) (hI : Inv false M) (hk : kd t = 21) (hF : Fr L M N) (hL : (!(fin L 21 1) && !(fin L 21 2) && !(fin L 21 3) && L.all (fun p => !(p.1 == 22)) && L.all (fun p => !(p.1 == 23))) = true) : zTV N t T := by
  simp only [Bool.and_eq_true, Bool.not_eq_true'] at hL
  unfold zTV
  rw [hF.e hk 1 hL.1.1.1.1, hF.e hk 2 hL.1.1.1.2, hF.e hk 3 hL.1.1.2, hF.fn (Inv.r hI hk rfl 2 rfl rfl) hL.1.2, hF.fn (Inv.r hI hk rfl 3 rfl rfl) hL.2]
  exact h
def tcL (L : List (Nat × Int)) : Bool := !(fin L 62 8) && !(fin L 62 9) && !(fin L 21 0) && (!(fin L 21 1) && !(fin L 21 2) && !(fin L 21 3) && L.all (fun p => !(p.1 == 22)) && L.all (fun p => !(p.1 == 23)))
theorem zTC.fr {L : List (Nat × Int)} {M N : Mem} {c : Int} {q : Int → Int} (h : zTC M c q) (hI : Inv false M) (hk : kd c = 62) (hF : Fr L M N) (hl : tcL L = true) : zTC N c q := by
  unfold tcL at hl
  rw [Bool.and_eq_true] at hl
  obtain ⟨hl, hL⟩ := hl
  simp only [Bool.and_eq_true, Bool.not_eq_true'] at hl
  have k8 := Inv.r hI hk rfl 8 rfl rfl
  have k9 := Inv.r hI hk rfl 9 rfl rfl
  unfold zTC
  rw [hF.e hk 8 hl.1.1, hF.e hk 9 hl.1.2, hF.e k8 0 hl.2, hF.e k9 0 hl.2]
  exact ⟨fun a b => (h.1 a b).fr hI k8 hF hL, fun a b => (h.2 a b).fr hI k9 hF hL⟩
theorem zTV.keep {M N : Mem} {t x : Int} {T : zT3} (h : zTV M x T) (hC : Ct (STb M t) M N) (hI : Inv false M) (hk : kd x = 21) (d0 : ¬ STb M t x) (d2 : ¬ STb M t (M x 2)) (d3 : ¬ STb M t (M x 3)) : zTV N x T := by
  have e := hC x (by rw [hk]; rfl) d0
  have e2 := hC (M x 2) (by rw [Inv.r hI hk rfl 2 rfl rfl]; rfl) d2
  have e3 := hC (M x 3) (by rw [Inv.r hI hk rfl 3 rfl rfl]; rfl) d3
  unfold zTV
  rw [e, e2, e3]
  exact h
theorem zTC.b1 {M N : Mem} {c : Int} {q : Int → Int} (h : zTC M c q) (hF : zTF M c) (hI : Inv false M) (hC : Ct (STb M (M c 8)) M N) (e8 : N c 8 = M c 8) (e9 : N c 9 = M c 9) (hb : zTV N (M c 8) (zTQA q 100)) : zTC N c q := by
  obtain ⟨f1, f2, f3, f4, f5, f6, f7, f8, f9, f0⟩ := hF
  refine ⟨fun _ _ => by rw [e8]; exact hb, fun a d => ?_⟩
  rw [e9] at d ⊢
  have n : ∀ x, (x = 15 ∨ x = 16 ∨ x = 17) → ¬ STb M (M c 8) x := fun x hx z => by
    unfold STb at z
    rw [f1, f3, f4, f5, f6] at z
    omega
  rw [f2] at d ⊢
  rw [hC 15 (by rw [kd_15]; rfl) (n 15 (by omega))] at d
  have v := h.2 a (by rw [f2]; exact d)
  rw [f2] at v
  exact v.keep hC hI kd_15 (n 15 (by omega)) (by rw [f7]; exact n 16 (by omega)) (by rw [f8]; exact n 17 (by omega))
theorem zTC.b2 {M N : Mem} {c : Int} {q : Int → Int} (h : zTC M c q) (hF : zTF M c) (hI : Inv false M) (hC : Ct (STb M (M c 9)) M N) (e8 : N c 8 = M c 8) (e9 : N c 9 = M c 9) (hb : zTV N (M c 9) (zTQA q 185)) : zTC N c q := by
  obtain ⟨f1, f2, f3, f4, f5, f6, f7, f8, f9, f0⟩ := hF
  refine ⟨fun a d => ?_, fun _ _ => by rw [e9]; exact hb⟩
  rw [e8] at d ⊢
  have n : ∀ x, (x = 10 ∨ x = 11 ∨ x = 12) → ¬ STb M (M c 9) x := fun x hx z => by
    unfold STb at z
    rw [f2, f7, f8, f9, f0] at z
    omega
  rw [f1] at d ⊢
  rw [hC 10 (by rw [kd_10]; rfl) (n 10 (by omega))] at d
  have v := h.1 a (by rw [f1]; exact d)
  rw [f1] at v
  exact v.keep hC hI kd_10 (n 10 (by omega)) (by rw [f3]; exact n 11 (by omega)) (by rw [f4]; exact n 12 (by omega))
