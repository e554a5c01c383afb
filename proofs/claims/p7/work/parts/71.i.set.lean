/-! the settings of both sides, told by rows of numbers: what the law's walk keeps (drafts, untried) -/
theorem zQV.up {q : Int → Int} {b l p r g : Int} (h : zQV q) (hb : b = 100 ∨ b = 185) (hn : q (b + 4) ≤ 19) : zQV (uprul q b l p r g) := by
  obtain ⟨h1, h2, h3, h4, h5, h6⟩ := h
  rcases hb with e | e <;> subst e
  · have v : q ((100 : Int) + 4) = q 104 := rfl
    have w : ∀ i, i = 3 ∨ i = 189 → uprul q 100 l p r g i = q i := fun i hi => by
      unfold uprul; rw [v] at *; rw [if_neg (by omega), if_neg (by omega), if_neg (by omega), if_neg (by omega), if_neg (by omega)]
    have w4 : uprul q 100 l p r g 104 = q 104 + 1 := by unfold uprul; rw [if_pos (by decide), v]
    unfold zQV
    rw [w 3 (Or.inl rfl), w 189 (Or.inr rfl), w4]
    rw [v] at hn
    omega
  · have v : q ((185 : Int) + 4) = q 189 := rfl
    have w : ∀ i, i = 3 ∨ i = 104 → uprul q 185 l p r g i = q i := fun i hi => by
      unfold uprul; rw [v] at *; rw [if_neg (by omega), if_neg (by omega), if_neg (by omega), if_neg (by omega), if_neg (by omega)]
    have w4 : uprul q 185 l p r g 189 = q 189 + 1 := by unfold uprul; rw [if_pos (by decide), v]
    unfold zQV
    rw [w 3 (Or.inl rfl), w 104 (Or.inr rfl), w4]
    rw [v] at hn
    omega
theorem zAD.v {q q2 : Int → Int} {a1 a2 a3 a4 a5 r : Int} (h : zAD q a1 a2 a3 a4 a5 r q2) (hq : zQV q) : zQV q2 := by
  rcases h with ⟨a, b, c⟩ | ⟨a, b, c, d⟩ | ⟨a, b, c, d, e⟩ | ⟨a, b, c, d, e⟩
  · rw [c]; exact hq
  · rw [d]; exact hq
  · rw [e]; exact hq
  · have u := hq.u
    have a0 := a.1
    have a1' := a.2.1
    rw [e]
    exact zQV.up hq (by omega) (by rw [show 85 * a1 + 100 + 4 = 85 * a1 + 104 by omega]; exact b)
theorem zDR.v {q q2 : Int → Int} {a1 a2 r : Int} (h : zDR q a1 a2 r q2) (hq : zQV q) : zQV q2 := by
  rcases h with ⟨a, b, c⟩ | ⟨a, b, c⟩
  · obtain ⟨h1, h2, h3, h4, h5, h6⟩ := hq
    rw [c]
    have e : a1 = 0 ∨ a1 = 1 := by omega
    rcases e with e | e <;> subst e
    · have v : q ((85 : Int) * 0 + 100 + 4) = q 104 := rfl
      have v' : q ((85 : Int) * 0 + 104) = q 104 := rfl
      rw [v'] at a
      have w : ∀ i, i = 3 ∨ i = 189 → zdrop q (85 * 0 + 100) a2 i = q i := fun i hi => by
        unfold zdrop; rw [v, if_neg (by omega), if_neg (by omega)]
      have w4 : zdrop q (85 * 0 + 100) a2 104 = q 104 - 1 := by unfold zdrop; rw [if_pos (by decide), v]
      unfold zQV
      rw [w 3 (Or.inl rfl), w 189 (Or.inr rfl), w4]
      omega
    · have v : q ((85 : Int) * 1 + 100 + 4) = q 189 := rfl
      have v' : q ((85 : Int) * 1 + 104) = q 189 := rfl
      rw [v'] at a
      have w : ∀ i, i = 3 ∨ i = 104 → zdrop q (85 * 1 + 100) a2 i = q i := fun i hi => by
        unfold zdrop; rw [v, if_neg (by omega), if_neg (by omega)]
      have w4 : zdrop q (85 * 1 + 100) a2 189 = q 189 - 1 := by unfold zdrop; rw [if_pos (by decide), v]
      unfold zQV
      rw [w 3 (Or.inl rfl), w 104 (Or.inr rfl), w4]
      omega
  · rw [c]; exact hq
theorem zST.v {q q2 : Int → Int} {w a1 a2 a3 r : Int} (h : zST q w a1 a2 a3 r q2) (hw : w = 2 ∨ w = 3) (hq : zQV q) : zQV q2 := by
  rcases h with ⟨a, b, c⟩ | ⟨a, b, c⟩
  · have u := hq.u
    have a0 := a.1
    have a1' := a.2.1
    rw [c]
    unfold zQV
    rw [upk_o (by omega), upk_o (by omega), upk_o (by omega)]
    exact hq
  · rw [c]; exact hq
theorem zCY.v {q q2 : Int → Int} {a1 a2 r : Int} (h : zCY q a1 a2 r q2) (hq : zQV q) : zQV q2 := by
  rcases h with ⟨a, b, c⟩ | ⟨a, b, c⟩
  · obtain ⟨h1, h2, h3, h4, h5, h6⟩ := hq
    rw [c]
    have e : (a1 = 0 ∧ a2 = 1) ∨ (a1 = 1 ∧ a2 = 0) := by omega
    have w3 : zcopy q a1 a2 3 = q 3 := by unfold zcopy; rw [if_neg (by omega)]
    unfold zQV
    rw [w3]
    rcases e with ⟨e, e'⟩ | ⟨e, e'⟩ <;> subst e e'
    · have w : zcopy q 0 1 104 = q 104 := by unfold zcopy; rw [if_neg (by decide)]
      have w' : zcopy q 0 1 189 = q 104 := by unfold zcopy; rw [if_pos (by decide)]; rfl
      rw [w, w']; omega
    · have w : zcopy q 1 0 104 = q 189 := by unfold zcopy; rw [if_pos (by decide)]; rfl
      have w' : zcopy q 1 0 189 = q 189 := by unfold zcopy; rw [if_neg (by decide)]
      rw [w, w']; omega
  · rw [c]; exact hq
def IA (k : Nat) : Bool := Nat.ble 1 k && Nat.ble k 7
theorem IA.no {L : List (Nat × Int)} (hL : L.all (fun p => !(IA p.1)) = true) {k : Nat} (hk : IA k = true) : L.all (fun p => !(p.1 == k)) = true := by
  rw [List.all_eq_true] at hL ⊢
  intro p hp
  have h := hL p hp
  cases e : (p.1 == k) with
  | false => rfl
  | true =>
    have e2 : p.1 = k := by simpa using e
    rw [e2, hk] at h
    cases h
theorem AT.fr2 {L : List (Nat × Int)} {M N : Mem} {x b : Int} {q : Int → Int} (h : AT M x q b) (hI : Inv false M) (hk : kd x = 1) (hF : Fr L M N) (hL : L.all (fun p => !(IA p.1)) = true) : AT N x q b := 
  AT.same h (hF.fn hk (IA.no hL rfl)) (hF.fn (Inv.r hI hk rfl 6 rfl rfl) (IA.no hL rfl)) (hF.fn (Inv.r hI hk rfl 7 rfl rfl) (IA.no hL rfl)) (hF.fn (Inv.r hI hk rfl 8 rfl rfl) (IA.no hL rfl)) (hF.fn (Inv.r hI hk rfl 9 rfl rfl) (IA.no hL rfl)) (hF.fn (Inv.r hI hk rfl 10 rfl rfl) (IA.no hL rfl)) (hF.fn (Inv.r hI hk rfl 11 rfl rfl) (IA.no hL rfl))
theorem zSU.fr2 {L : List (Nat × Int)} {M N : Mem} {s : Int} {q : Int → Int} (h : zSU M s q) (hI : Inv false M) (hm : kd s = 12) (hF : Fr L M N) (hL : L.all (fun p => !(p.1 == 12)) = true) (hL2 : L.all (fun p => !(IA p.1)) = true) : zSU N s q := by
  unfold zSU; rw [hF.fn hm hL]
  exact ⟨fun a => (h.1 a).fr2 hI (Inv.r hI hm rfl 4 rfl rfl) hF hL2, fun a => (h.2 a).fr2 hI (Inv.r hI hm rfl 5 rfl rfl) hF hL2⟩
theorem kd_x9 : kd 9 = 63 := by decide +kernel
theorem zk_0 : kd 0 = 62 := by decide +kernel
theorem zk_5 : kd 5 = 17 := by decide +kernel
theorem kd_lv {M : Mem} (h : Inv false M) : kd (M 0 5) = 12 := Inv.r h zk_0 rfl 5 rfl rfl
theorem kd_kp {M : Mem} (h : Inv false M) (m : Int) : kd (M 9 m) = 12 := Inv.r h kd_x9 rfl m rfl rfl
def zSL (M : Mem) (s : Int) (f : Int → Int) : Prop := ∃ q, zQV q ∧ zSN M s q ∧ zSU M s q ∧ zRN f q ∧ zRU f q
theorem zSL.fr {L : List (Nat × Int)} {M N : Mem} {s : Int} {f : Int → Int} (h : zSL M s f) (hI : Inv false M) (hm : kd s = 12) (hF : Fr L M N) (hL : L.all (fun p => !(p.1 == 12)) = true) (hL2 : L.all (fun p => !(IA p.1)) = true) : zSL N s f := by
  obtain ⟨q, a, b, c, d⟩ := h
  exact ⟨q, a, zSN.fr b hm hF hL, c.fr2 hI hm hF hL hL2, d⟩
theorem zSL.keep {M N : Mem} {s : Int} {f : Int → Int} {S : Int → Prop} (h : zSL M s f) (hZ : FZ M) (hI : Inv false M) (hm : kd s = 12) (hC : Cf S M N) (hS : ∀ y, s ≤ y → y < s + 15 → ¬ S y) : zSL N s f := by
  obtain ⟨q, a, b, c, d⟩ := h
  exact ⟨q, a, zSN.keep b hm hC (hS s (by omega) (by omega)), zSU.keep c hZ hI hm hC hS, d⟩
theorem zSL.cg {M : Mem} {s : Int} {f g : Int → Int} (h : zSL M s f) (e : ∀ i, 0 ≤ i → i < 4 → g i = f i) (e' : ∀ i, 100 ≤ i → i < 270 → g i = f i) : zSL M s g := by
  obtain ⟨q, a, b, c, d1, d2⟩ := h
  exact ⟨q, a, b, c, d1.cg e, d2.cg e' a⟩
/-- live, made and kept settings are unlike -/
def zDI (M : Mem) : Prop := ¬ M 0 5 = M 5 0 ∧ (∀ m, 0 ≤ m → m ≤ 2 → ¬ M 9 m = M 0 5 ∧ ¬ M 9 m = M 5 0) ∧ (∀ m n, 0 ≤ m → m ≤ 2 → 0 ≤ n → n ≤ 2 → ¬ m = n → ¬ M 9 m = M 9 n)
def zTS (M N : Mem) : Prop := zSL M (M 0 5) (N 164) ∧ (∀ m, 0 ≤ m → m < M 0 7 → m ≤ 2 → zSL M (M 9 m) (fun i => N 164 (272 * (m + 1) + i))) ∧ zDI M
def tsC (L : List (Nat × Int)) : Bool := !(fin L 62 5) && !(fin L 62 7) && !(fin L 17 0) && L.all (fun p => !(p.1 == 63)) && L.all (fun p => !(p.1 == 12)) && L.all (fun p => !(IA p.1))
theorem zTS.c {L : List (Nat × Int)} {M M' N : Mem} (h : zTS M N) (hI : Inv false M) (hF : Fr L M M') (hl : tsC L = true) : zTS M' N := by
  unfold tsC at hl
  simp only [Bool.and_eq_true, Bool.not_eq_true'] at hl
  obtain ⟨⟨⟨⟨⟨a, b⟩, c⟩, d⟩, e⟩, f⟩ := hl
  obtain ⟨h1, h2, h3⟩ := h
  have e5 := hF.e zk_0 5 a
  have e7 := hF.e zk_0 7 b
  have e0 := hF.e zk_5 0 c
  have e9 : M' 9 = M 9 := hF.fn kd_x9 d
  refine ⟨by rw [e5]; exact h1.fr hI (kd_lv hI) hF e f, fun m m0 m1 m2 => ?_, ?_⟩
  · rw [e7] at m1
    rw [e9]
    exact (h2 m m0 m1 m2).fr hI (kd_kp hI m) hF e f
  · unfold zDI; rw [e5, e0, e9]; exact h3
/-- nothing of the settings has changed -/
theorem zTS.same {M M' N U : Mem} (h : zTS M N) (hI : Inv false M) (hZ : FZ M) (e5 : M' 0 5 = M 0 5) (e7 : M' 0 7 = M 0 7) (e0 : M' 5 0 = M 5 0) (e9 : M' 9 = M 9) (hC : Cf (fun _ => False) M M') (u : U 164 = N 164) : zTS M' U := by
  obtain ⟨h1, h2, h3⟩ := h
  refine ⟨by rw [e5, u]; exact h1.keep hZ hI (kd_lv hI) hC (fun _ _ _ a => a), fun m m0 m1 m2 => ?_, by unfold zDI; rw [e5, e0, e9]; exact h3⟩
  rw [e7] at m1
  rw [e9, u]
  exact (h2 m m0 m1 m2).keep hZ hI (kd_kp hI m) hC (fun _ _ _ a => a)
theorem zTS.eq {M M' N U : Mem} {L : List (Nat × Int)} (h : zTS M N) (hI : Inv false M) (hF : Fr L M M') (e5 : M' 0 5 = M 0 5) (e7 : M' 0 7 = M 0 7) (e0 : M' 5 0 = M 5 0) (e9 : M' 9 = M 9) (u : U 164 = N 164) (hL : L.all (fun p => !(p.1 == 12)) = true) (hL2 : L.all (fun p => !(IA p.1)) = true) : zTS M' U := by
  obtain ⟨h1, h2, h3⟩ := h
  refine ⟨by rw [e5, u]; exact h1.fr hI (kd_lv hI) hF hL hL2, fun m m0 m1 m2 => ?_, by unfold zDI; rw [e5, e0, e9]; exact h3⟩
  rw [e7] at m1
  rw [e9, u]
  exact (h2 m m0 m1 m2).fr hI (kd_kp hI m) hF hL hL2
