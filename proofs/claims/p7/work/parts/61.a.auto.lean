/-! what is left as it was, cell by cell, of a checker's numbers and automata -/
def IK (k : Nat) : Bool := Nat.ble 1 k && Nat.ble k 12
def Cf (S : Int → Prop) (M N : Mem) : Prop := ∀ x, IK (kd x) = true → ¬ S x → N x = M x
theorem Cf.rf (S : Int → Prop) (M : Mem) : Cf S M M := fun _ _ _ => rfl
theorem Cf.fr {S : Int → Prop} {M N N' : Mem} {L : List (Nat × Int)} (h : Cf S M N) (hF : Fr L N N') (hL : L.all (fun p => !(IK p.1)) = true) : Cf S M N' := fun x hk hx => by
  funext j
  have e : fin L (kd x) j = false := by
    cases hf : fin L (kd x) j with
    | false => rfl
    | true =>
      unfold fin at hf
      obtain ⟨p, hp, h1⟩ := List.any_eq_true.mp hf
      have h2 := List.all_eq_true.mp hL p hp
      simp only [Bool.and_eq_true, beq_iff_eq] at h1
      rw [h1.1, hk] at h2
      cases h2
  rw [hF x j e, h x hk hx]
theorem Cf.c {S S' : Int → Prop} {M N N' : Mem} (h : Cf S M N) (h' : Cf S' N N') (hs : ∀ x, S' x → S x) : Cf S M N' := fun x hk hx => by
  rw [h' x hk (fun q => hx (hs x q)), h x hk hx]
/-- where the cells of what is nested lie -/
def FZ (M : Mem) : Prop := (∀ c, kd c = 1 → M c 6 = c + 1 ∧ M c 7 = c + 2 ∧ M c 8 = c + 3 ∧ M c 9 = c + 4 ∧ M c 10 = c + 5 ∧ M c 11 = c + 6) ∧ (∀ c, kd c = 12 → M c 4 = c + 1 ∧ M c 5 = c + 8 ∧ M c 6 = c + 15) ∧ (∀ c, kd c = 8 → M c 5 = c + 1 ∧ M c 6 = c + 2 ∧ M c 7 = c + 3)
def fzL (L : List (Nat × Int)) : Bool := [((1 : Nat), (6 : Int)), (1, 7), (1, 8), (1, 9), (1, 10), (1, 11), (12, 4), (12, 5), (12, 6), (8, 5), (8, 6), (8, 7)].all (fun q => !(fin L q.1 q.2))
theorem FZ.fr {L : List (Nat × Int)} {M N : Mem} (h : FZ M) (hF : Fr L M N) (hL : fzL L = true) : FZ N := by
  have g : ∀ (k : Nat) (i : Int), (k, i) ∈ [((1 : Nat), (6 : Int)), (1, 7), (1, 8), (1, 9), (1, 10), (1, 11), (12, 4), (12, 5), (12, 6), (8, 5), (8, 6), (8, 7)] → ∀ c, kd c = k → N c i = M c i := fun k i hm c hk => by
    have h2 := List.all_eq_true.mp hL (k, i) hm
    exact hF.e hk i (by simpa using h2)
  refine ⟨fun c hc => ?_, fun c hc => ?_, fun c hc => ?_⟩
  · rw [g 1 6 (by decide) c hc, g 1 7 (by decide) c hc, g 1 8 (by decide) c hc, g 1 9 (by decide) c hc, g 1 10 (by decide) c hc, g 1 11 (by decide) c hc]; exact h.1 c hc
  · rw [g 12 4 (by decide) c hc, g 12 5 (by decide) c hc, g 12 6 (by decide) c hc]; exact h.2.1 c hc
  · rw [g 8 5 (by decide) c hc, g 8 6 (by decide) c hc, g 8 7 (by decide) c hc]; exact h.2.2 c hc
/-- the cells of an automaton, of a setting's numbers -/
def SA (M : Mem) (c : Int) : Int → Prop := fun x => x = c ∨ x = M c 6 ∨ x = M c 7 ∨ x = M c 8 ∨ x = M c 9 ∨ x = M c 10 ∨ x = M c 11
theorem SA.fr {L : List (Nat × Int)} {M N : Mem} {c x : Int} (h : SA N c x) (hk : kd c = 1) (hF : Fr L M N) (hL : fzL L = true) : SA M c x := by
  have g : ∀ (k : Nat) (i : Int), (k, i) ∈ [((1 : Nat), (6 : Int)), (1, 7), (1, 8), (1, 9), (1, 10), (1, 11), (12, 4), (12, 5), (12, 6), (8, 5), (8, 6), (8, 7)] → ∀ c, kd c = k → N c i = M c i := fun k i hm c hk => by
    have h2 := List.all_eq_true.mp hL (k, i) hm
    exact hF.e hk i (by simpa using h2)
  unfold SA at h ⊢
  rw [g 1 6 (by decide) c hk, g 1 7 (by decide) c hk, g 1 8 (by decide) c hk, g 1 9 (by decide) c hk, g 1 10 (by decide) c hk, g 1 11 (by decide) c hk] at h
  exact h
theorem SA.in {M : Mem} {c x : Int} (h : SA M c x) (hZ : FZ M) (hk : kd c = 1) : c ≤ x ∧ x < c + 7 := by
  have z := hZ.1 c hk
  rcases h with e | e | e | e | e | e | e <;> omega
theorem UP.of {M N N' : Mem} {c a v : Int} (h : ∀ j, N c j = M c j) (hN : N' = mu N c a v) : UP M N' c a v := fun j => by rw [hN, mu_at, h j]
/-- an automaton as a row of numbers tells it -/
def AT0 (M : Mem) (x : Int) (q : Int → Int) (b : Int) : Prop := M x 0 = q b ∧ M x 1 = q (b + 1) ∧ M x 2 = q (b + 2) ∧ M x 3 = q (b + 3) ∧ M x 4 = q (b + 4) ∧ M x 5 = q 0 ∧ ∀ k, 0 ≤ k → k < q (b + 4) → M (M x 6) k = q (b + 5 + 4 * k) ∧ M (M x 7) k = q (b + 6 + 4 * k) ∧ M (M x 8) k = q (b + 7 + 4 * k) ∧ M (M x 9) k = q (b + 8 + 4 * k)
theorem AT0.num {M : Mem} {x b : Int} {q : Int → Int} (h : AT0 M x q b) : M x 0 = q b ∧ M x 1 = q (b + 1) ∧ M x 2 = q (b + 2) ∧ M x 3 = q (b + 3) ∧ M x 4 = q (b + 4) ∧ M x 5 = q 0 := ⟨h.1, h.2.1, h.2.2.1, h.2.2.2.1, h.2.2.2.2.1, h.2.2.2.2.2.1⟩
theorem AT0.rul {M : Mem} {x b : Int} {q : Int → Int} (h : AT0 M x q b) : ∀ k, 0 ≤ k → k < q (b + 4) → M (M x 6) k = q (b + 5 + 4 * k) ∧ M (M x 7) k = q (b + 6 + 4 * k) ∧ M (M x 8) k = q (b + 7 + 4 * k) ∧ M (M x 9) k = q (b + 8 + 4 * k) := h.2.2.2.2.2.2
/-- what is as it was tells the same -/
theorem AT0.same {M N : Mem} {x b : Int} {q : Int → Int} (h : AT0 M x q b) (h0 : N x = M x) (h6 : N (M x 6) = M (M x 6)) (h7 : N (M x 7) = M (M x 7)) (h8 : N (M x 8) = M (M x 8)) (h9 : N (M x 9) = M (M x 9)) : AT0 N x q b := by
  unfold AT0 at h ⊢
  rw [h0, h6, h7, h8, h9]
  exact h
/-- a row of numbers read elsewhere -/
theorem AT0.cg {M : Mem} {x b b' : Int} {q q' : Int → Int} (h : AT0 M x q b) (h0 : q' 0 = q 0) (hb : ∀ i, 0 ≤ i → i < 85 → q' (b' + i) = q (b + i)) (hr : q (b + 4) ≤ 20) : AT0 M x q' b' := by
  obtain ⟨a0, a1, a2, a3, a4, a5, a6⟩ := h
  have e0 := hb 0 (by decide) (by decide)
  rw [Int.add_zero, Int.add_zero] at e0
  refine ⟨by rw [e0]; exact a0, by rw [hb 1 (by decide) (by decide)]; exact a1, by rw [hb 2 (by decide) (by decide)]; exact a2, by rw [hb 3 (by decide) (by decide)]; exact a3, by rw [hb 4 (by decide) (by decide)]; exact a4, by rw [h0]; exact a5, fun k hk hl => ?_⟩
  rw [hb 4 (by decide) (by decide)] at hl
  have c := a6 k hk hl
  have f : ∀ i : Int, 5 ≤ i → i ≤ 8 → q' (b' + i + 4 * k) = q (b + i + 4 * k) := fun i h1 h2 => by
    rw [Int.add_assoc, Int.add_assoc]; exact hb (i + 4 * k) (by omega) (by omega)
  rw [f 5 (by decide) (by decide), f 6 (by decide) (by decide), f 7 (by decide) (by decide), f 8 (by decide) (by decide)]
  exact c
def upclr (q : Int → Int) (b s g : Int) : Int → Int := fun i => if i = b then s else if i = b + 1 then g else if i = b + 2 ∨ i = b + 3 ∨ i = b + 4 then 0 else q i
theorem AT0.clr {N : Mem} {x b s g : Int} {q : Int → Int} (hb : 0 < b) (h0 : N x 0 = s) (h1 : N x 1 = g) (h2 : N x 2 = 0) (h3 : N x 3 = 0) (h4 : N x 4 = 0) (h5 : N x 5 = q 0) : AT0 N x (upclr q b s g) b := by
  have e0 : upclr q b s g b = s := by unfold upclr; rw [if_pos rfl]
  have e1 : upclr q b s g (b + 1) = g := by unfold upclr; rw [if_neg (by omega), if_pos rfl]
  have e2 : ∀ i, 2 ≤ i → i ≤ 4 → upclr q b s g (b + i) = 0 := fun i p r => by unfold upclr; rw [if_neg (by omega), if_neg (by omega), if_pos (by omega)]
  have e5 : upclr q b s g 0 = q 0 := by unfold upclr; rw [if_neg (by omega), if_neg (by omega), if_neg (by omega)]
  refine ⟨by rw [e0]; exact h0, by rw [e1]; exact h1, by rw [e2 2 (by decide) (by decide)]; exact h2, by rw [e2 3 (by decide) (by decide)]; exact h3, by rw [e2 4 (by decide) (by decide)]; exact h4, by rw [e5]; exact h5, fun k hk hl => ?_⟩
  rw [e2 4 (by decide) (by decide)] at hl
  omega
def uprul (q : Int → Int) (b l p r g : Int) : Int → Int := fun i => if i = b + 4 then q (b + 4) + 1 else if i = b + 5 + 4 * q (b + 4) then l else if i = b + 6 + 4 * q (b + 4) then p else if i = b + 7 + 4 * q (b + 4) then r else if i = b + 8 + 4 * q (b + 4) then g else q i
/-- a row filled so far -/
def zFL (N : Mem) (c i v : Int) : Prop := ∀ j, 0 ≤ j → j < i → N c j = v
theorem zFL.at {N : Mem} {c i n v : Int} (h : zFL N c i v) (e : n = i) : zFL N c n v := by subst e; exact h
/-! what the rules of an automaton come to, by letter -/
def zpr (F T : Int → Int) (k : Int) : Int := zshl 1 (3 * F k + T k)
def zsF (L F T S : Int → Int) (c l : Int) : Nat → Int
  | 0 => 0
  | n + 1 => if L (n : Int) = l ∧ (S (n : Int) = -1 ∨ l < c) then zor (zsF L F T S c l n) (zpr F T (n : Int)) else zsF L F T S c l n
def zkF (L F T S : Int → Int) (l g : Int) : Nat → Int
  | 0 => 0
  | n + 1 => if L (n : Int) = l ∧ S (n : Int) = g then zor (zkF L F T S l g n) (zpr F T (n : Int)) else zkF L F T S l g n
theorem zsF.cg {L F T S L' F' T' S' : Int → Int} {c c' l : Int} (e : c' = c) : ∀ n : Nat, (∀ j : Int, 0 ≤ j → j < n → L' j = L j ∧ F' j = F j ∧ T' j = T j ∧ S' j = S j) → zsF L' F' T' S' c' l n = zsF L F T S c l n
  | 0, _ => rfl
  | n + 1, h => by
    have i := zsF.cg (l := l) e n (fun j h0 h1 => h j h0 (by omega))
    obtain ⟨a, b, d, f⟩ := h (n : Int) (by omega) (by omega)
    subst e
    unfold zsF zpr
    rw [i, a, b, d, f]
theorem zkF.cg {L F T S L' F' T' S' : Int → Int} {l g : Int} : ∀ n : Nat, (∀ j : Int, 0 ≤ j → j < n → L' j = L j ∧ F' j = F j ∧ T' j = T j ∧ S' j = S j) → zkF L' F' T' S' l g n = zkF L F T S l g n
  | 0, _ => rfl
  | n + 1, h => by
    have i := zkF.cg (l := l) (g := g) n (fun j h0 h1 => h j h0 (by omega))
    obtain ⟨a, b, d, f⟩ := h (n : Int) (by omega) (by omega)
    unfold zkF zpr
    rw [i, a, b, d, f]
def zAW (M : Mem) (x n : Int) : Prop := (∀ l, 0 ≤ l → l < 6 → M (M x 10) l = zsF (M (M x 6)) (M (M x 7)) (M (M x 8)) (M (M x 9)) (M x 5) l n.toNat) ∧ ∀ l g, 0 ≤ l → l < 6 → 0 ≤ g → g < 3 → M (M x 11) (3 * l + g) = zkF (M (M x 6)) (M (M x 7)) (M (M x 8)) (M (M x 9)) l g n.toNat
theorem zAW.at {N : Mem} {x n m : Int} (h : zAW N x n) (e : m = n) : zAW N x m := by subst e; exact h
theorem zAW.cg {M N : Mem} {x n : Int} (h : zAW M x n) (e5 : N x 5 = M x 5) (e6 : N x 6 = M x 6) (e7 : N x 7 = M x 7) (e8 : N x 8 = M x 8) (e9 : N x 9 = M x 9) (e10 : N x 10 = M x 10) (e11 : N x 11 = M x 11) (u : ∀ j, 0 ≤ j → j < n → N (M x 6) j = M (M x 6) j ∧ N (M x 7) j = M (M x 7) j ∧ N (M x 8) j = M (M x 8) j ∧ N (M x 9) j = M (M x 9) j) (u10 : ∀ j, N (M x 10) j = M (M x 10) j) (u11 : ∀ j, N (M x 11) j = M (M x 11) j) : zAW N x n := by
  obtain ⟨h1, h2⟩ := h
  refine ⟨fun l a b => ?_, fun l g a b c d => ?_⟩
  · rw [e5, e6, e7, e8, e9, e10, u10, h1 l a b]
    exact (zsF.cg rfl n.toNat (fun j p q => u j p (by omega))).symm
  · rw [e6, e7, e8, e9, e11, u11, h2 l g a b c d]
    exact (zkF.cg n.toNat (fun j p q => u j p (by omega))).symm
/-- an automaton, with what its rules come to -/
def AT (M : Mem) (x : Int) (q : Int → Int) (b : Int) : Prop := AT0 M x q b ∧ zAW M x (M x 4)
theorem AT.num {M : Mem} {x b : Int} {q : Int → Int} (h : AT M x q b) : M x 0 = q b ∧ M x 1 = q (b + 1) ∧ M x 2 = q (b + 2) ∧ M x 3 = q (b + 3) ∧ M x 4 = q (b + 4) ∧ M x 5 = q 0 := h.1.num
theorem AT.rul {M : Mem} {x b : Int} {q : Int → Int} (h : AT M x q b) : ∀ k, 0 ≤ k → k < q (b + 4) → M (M x 6) k = q (b + 5 + 4 * k) ∧ M (M x 7) k = q (b + 6 + 4 * k) ∧ M (M x 8) k = q (b + 7 + 4 * k) ∧ M (M x 9) k = q (b + 8 + 4 * k) := h.1.rul
theorem AT.same {M N : Mem} {x b : Int} {q : Int → Int} (h : AT M x q b) (h0 : N x = M x) (h6 : N (M x 6) = M (M x 6)) (h7 : N (M x 7) = M (M x 7)) (h8 : N (M x 8) = M (M x 8)) (h9 : N (M x 9) = M (M x 9)) (h10 : N (M x 10) = M (M x 10)) (h11 : N (M x 11) = M (M x 11)) : AT N x q b := by
  refine ⟨AT0.same h.1 h0 h6 h7 h8 h9, ?_⟩
  rw [h0]
  exact h.2.cg (by rw [h0]) (by rw [h0]) (by rw [h0]) (by rw [h0]) (by rw [h0]) (by rw [h0]) (by rw [h0]) (fun j _ _ => ⟨by rw [h6], by rw [h7], by rw [h8], by rw [h9]⟩) (fun j => by rw [h10]) (fun j => by rw [h11])
theorem AT.cg {M : Mem} {x b b' : Int} {q q' : Int → Int} (h : AT M x q b) (h0 : q' 0 = q 0) (hb : ∀ i, 0 ≤ i → i < 85 → q' (b' + i) = q (b + i)) (hr : q (b + 4) ≤ 20) : AT M x q' b' := ⟨AT0.cg h.1 h0 hb hr, h.2⟩
theorem AT.clr {N : Mem} {x b s g : Int} {q : Int → Int} (hb : 0 < b) (h0 : N x 0 = s) (h1 : N x 1 = g) (h2 : N x 2 = 0) (h3 : N x 3 = 0) (h4 : N x 4 = 0) (h5 : N x 5 = q 0) (hw : zAW N x 0) : AT N x (upclr q b s g) b := ⟨AT0.clr hb h0 h1 h2 h3 h4 h5, hw.at h4⟩
/-- whether a rule is there already -/
def RQr (q : Int → Int) (b l p r g : Int) : Prop := ∃ k, 0 ≤ k ∧ k < q (b + 4) ∧ q (b + 5 + 4 * k) = l ∧ q (b + 6 + 4 * k) = p ∧ q (b + 7 + 4 * k) = r ∧ q (b + 8 + 4 * k) = g
noncomputable def rq (q : Int → Int) (b l p r g : Int) : Int := @ite Int (RQr q b l p r g) (Classical.propDecidable _) 1 0
