/-! keywords among the tokens -/
def tis (B : Int → Int) (j : Int) (s : Nat) : Prop := tk B j = 1 ∧ tq B j - tp B j = slen s ∧ ∀ x, 0 ≤ x → x < slen s → B (tp B j + x) = schar s x
def kwl : List Nat := [0, 1, 2, 3, 5, 6, 7, 4, 8, 9, 10]
def kws (k : Nat) : Nat := kwl.getD k 0
def kil : List Int := [0, 1, 2, 3, 7, 4, 5, 6, 8, 9, 10]
def kwi (s : Nat) : Int := kil.getD s (-2)
def sdf (a b : Nat) : Bool := !(slen a == slen b) || (List.range 9).any (fun x => decide ((x : Int) < slen a) && !(schar a (x : Int) == schar b (x : Int)))
theorem sd_all : ∀ a, a < 11 → ∀ b, b < 11 → a ≠ b → sdf a b = true := by decide +kernel
theorem tis_u {B : Int → Int} {j : Int} {a b : Nat} (h : tis B j a) (h' : tis B j b) (ha : a < 11) (hb : b < 11) : a = b := by
  by_cases e : a = b
  · exact e
  · have h0 := sd_all a ha b hb e
    unfold sdf at h0
    simp only [Bool.or_eq_true, Bool.not_eq_true', beq_eq_false_iff_ne, List.any_eq_true, Bool.and_eq_true, decide_eq_true_eq] at h0
    rcases h0 with q | ⟨x, -, hx, hn⟩
    · exact absurd (h.2.1.symm.trans h'.2.1) q
    · have e1 := h.2.2 x (by omega) hx
      have e2 := h'.2.2 x (by omega) (by rw [← h'.2.1, h.2.1]; exact hx)
      exact absurd (e1.symm.trans e2) hn
theorem kwi_r : ∀ s, s < 11 → 0 ≤ kwi s ∧ kwi s ≤ 10 ∧ kws (kwi s).toNat = s := by decide +kernel
theorem kws_r : ∀ k, k < 11 → kws k < 11 ∧ kwi (kws k) = (k : Int) := by decide +kernel
def kwP (B : Int → Int) (j k : Int) : Prop := (0 ≤ k ∧ k ≤ 10 ∧ tis B j (kws k.toNat)) ∨ (k = -1 ∧ ∀ s, s < 11 → ¬ tis B j s)
theorem kwP.ex (B : Int → Int) (j : Int) : ∃ k, kwP B j k := by
  by_cases h : ∃ s, s < 11 ∧ tis B j s
  · obtain ⟨s, hs, ht⟩ := h
    have q := kwi_r s hs
    exact ⟨kwi s, Or.inl ⟨q.1, q.2.1, by rw [q.2.2]; exact ht⟩⟩
  · exact ⟨-1, Or.inr ⟨rfl, fun s hs ht => h ⟨s, hs, ht⟩⟩⟩
noncomputable def kwd (B : Int → Int) (j : Int) : Int := Classical.epsilon (kwP B j)
theorem kwd_s (B : Int → Int) (j : Int) : kwP B j (kwd B j) := Classical.epsilon_spec (kwP.ex B j)
theorem kwd_r (B : Int → Int) (j : Int) : -1 ≤ kwd B j ∧ kwd B j ≤ 10 := by
  rcases kwd_s B j with ⟨a, b, c⟩ | ⟨a, b⟩ <;> omega
theorem kwd_y {B : Int → Int} {j : Int} {s : Nat} (h : tis B j s) (hs : s < 11) : kwd B j = kwi s := by
  rcases kwd_s B j with ⟨a, b, c⟩ | ⟨a, b⟩
  · have h1 := kws_r (kwd B j).toNat (by omega)
    have h2 := tis_u c h h1.1 hs
    rw [← h2, h1.2]; omega
  · exact absurd h (b s hs)
theorem kwd_n {B : Int → Int} {j : Int} {s : Nat} (h : ¬ tis B j s) (hs : s < 11) : kwd B j ≠ kwi s := fun e => by
  have h1 := kwi_r s hs
  rcases kwd_s B j with ⟨a, b, c⟩ | ⟨a, b⟩
  · rw [e, h1.2.2] at c; exact h c
  · omega
theorem kwd_n1 {B : Int → Int} {j : Int} {s : Nat} (hs : s < 11) (h : tk B j ≠ 1 ∨ tq B j - tp B j ≠ slen s) : kwd B j ≠ kwi s := kwd_n (fun q => by
  rcases h with a | a
  · exact a q.1
  · exact a q.2.1) hs
theorem kwd_n2 {B : Int → Int} {j x : Int} {s : Nat} (hs : s < 11) (h0 : 0 ≤ x ∧ x < slen s) (h : B (tp B j + x) ≠ schar s x) : kwd B j ≠ kwi s := kwd_n (fun q => h (q.2.2 x h0.1 h0.2)) hs
theorem kwd_0 {B : Int → Int} {j : Int} (h : tk B j ≠ 1) : kwd B j = -1 := by
  rcases kwd_s B j with ⟨a, b, c⟩ | ⟨a, b⟩
  · exact absurd c.1 h
  · exact a
def EQw (_ : Mem) (B : Int → Int) (j : Int) (s : Nat) (x : Int) : Prop := ∀ y, 0 ≤ y → y < x → B (tp B j + y) = schar s y
theorem EQw.nil {N : Mem} {B : Int → Int} {j : Int} {s : Nat} : EQw N B j s 0 := fun y a b => by omega
theorem EQw.step {N : Mem} {B : Int → Int} {j x : Int} {s : Nat} (h : EQw N B j s x) (h1 : B (tp B j + x) = schar s x) : EQw N B j s (x + 1) := fun y a b => by
  by_cases q : y = x
  · rw [q]; exact h1
  · exact h y a (by omega)
theorem EQw.done {N : Mem} {B : Int → Int} {j x : Int} {s : Nat} (h : EQw N B j s x) (hs : s < 11) (h1 : tk B j = 1) (h2 : tq B j - tp B j = slen s) (h3 : slen s ≤ x) : kwd B j = kwi s := kwd_y ⟨h1, h2, fun y a b => h y a (by omega)⟩ hs
theorem schar_z (s : Nat) (hs : s < 12) (x : Int) : zand (schar s x) 255 = schar s x := by
  have h := schar_rng s hs x
  rw [zand_255 ⟨by omega, h.2⟩, if_neg (by omega)]
/-! the words of one text, one behind the other -/
def ksl : List Int := [1, 6, 10, 16, 26, 32, 39, 44, 52, 57, 61, 67]
def kst (k : Nat) : Int := ksl.getD k 67
theorem kst_b : ∀ k, k < 12 → 1 ≤ kst k ∧ kst k ≤ 67 ∧ (k < 11 → kst k ≤ 61) := by decide +kernel
theorem kst_a : ∀ k, k < 11 → kst k + slen (kws k) + 1 = kst (k + 1) ∧ schar 11 (kst k + slen (kws k)) = 32 ∧ slen (kws k) ≤ 9 ∧ 0 ≤ slen (kws k) := by decide +kernel
theorem kst_c : ∀ k : Nat, k < 11 → ∀ x : Nat, x < 9 → (x : Int) < slen (kws k) → schar 11 (kst k + (x : Int)) = schar (kws k) (x : Int) ∧ schar 11 (kst k + (x : Int)) ≠ 32 := by decide +kernel
def OW (_ : Mem) (B : Int → Int) (j n k : Int) : Prop := 0 ≤ n ∧ n ≤ 11 ∧ k = kst n.toNat ∧ ∀ m : Nat, (m : Int) < n → kwd B j ≠ (m : Int)
theorem OW.nil {N : Mem} {B : Int → Int} {j : Int} : OW N B j 0 1 := ⟨by decide, by decide, rfl, fun m h => by omega⟩
theorem OW.b {N : Mem} {B : Int → Int} {j n k : Int} (h : OW N B j n k) : 0 ≤ n ∧ n ≤ 11 ∧ 1 ≤ k ∧ k ≤ 67 ∧ (n ≤ 10 ∧ k ≤ 61 ∨ n = 11 ∧ k = 67) := by
  obtain ⟨h1, h2, h3, -⟩ := h
  have q := kst_b n.toNat (by omega)
  by_cases e : n = 11
  · subst e
    have : kst (11 : Int).toNat = 67 := rfl
    omega
  · have := q.2.2 (by omega)
    omega
def SC (_ : Mem) (k e : Int) : Prop := k ≤ e ∧ ∀ y, k ≤ y → y < e → schar 11 y ≠ 32
theorem SC.nil {N : Mem} {k : Int} : SC N k k := ⟨Int.le_refl _, fun y a b => by omega⟩
theorem SC.step {N : Mem} {k e : Int} (h : SC N k e) (h1 : schar 11 e ≠ 32) : SC N k (e + 1) := ⟨by have := h.1; omega, fun y a b => by
  by_cases q : y = e
  · rw [q]; exact h1
  · exact h.2 y a (by omega)⟩
theorem SC.done {N N' : Mem} {B : Int → Int} {j n k e : Int} (h : SC N k e) (ho : OW N' B j n k) (hn : n ≤ 10) (h1 : schar 11 e = 32) : e = k + slen (kws n.toNat) := by
  have a := kst_a n.toNat (by have := ho.1; omega)
  have e3 := ho.2.2.1
  rcases Int.lt_trichotomy e (k + slen (kws n.toNat)) with q | q | q
  · have c := kst_c n.toNat (by have := ho.1; omega) (e - k).toNat (by have := h.1; omega) (by have := h.1; omega)
    have e2 : kst n.toNat + ((e - k).toNat : Int) = e := by have := h.1; omega
    rw [e2] at c
    exact absurd h1 c.2
  · exact q
  · have c := h.2 (k + slen (kws n.toNat)) (by omega) q
    rw [e3] at c
    exact absurd a.2.1 c
theorem OW.ch {N : Mem} {B : Int → Int} {j n k x : Int} (h : OW N B j n k) (hn : n ≤ 10) (hx : 0 ≤ x ∧ x < slen (kws n.toNat)) : schar 11 (k + x) = schar (kws n.toNat) x := by
  have a := kst_a n.toNat (by have := h.1; omega)
  have c := kst_c n.toNat (by have := h.1; omega) x.toNat (by omega) (by omega)
  rw [show ((x.toNat : Nat) : Int) = x by omega, ← h.2.2.1] at c
  exact c.1
theorem OW.next {N N' : Mem} {B : Int → Int} {j n k k' : Int} (h : OW N B j n k) (hn : n ≤ 10) (h1 : kwd B j ≠ n) (h2 : k' = k + slen (kws n.toNat) + 1) : OW N' B j (n + 1) k' := by
  obtain ⟨a1, a2, a3, a4⟩ := h
  have a := kst_a n.toNat (by omega)
  refine ⟨by omega, by omega, ?_, fun m hm => ?_⟩
  · rw [show (n + 1).toNat = n.toNat + 1 by omega, ← a.1, h2, a3]
  · by_cases q : (m : Int) = n
    · rw [q]; exact h1
    · exact a4 m (by omega)
theorem OW.fin {N : Mem} {B : Int → Int} {j n k : Int} (h : OW N B j n k) (h1 : 67 ≤ k) : kwd B j = -1 := by
  have q := h.b
  have r := kwd_r B j
  obtain ⟨a1, a2, a3, a4⟩ := h
  by_cases e : kwd B j = -1
  · exact e
  · exact absurd (by omega) (a4 (kwd B j).toNat (by omega))
def LK (_ : Mem) (B : Int → Int) (j n l x : Int) : Prop := (l = 1 ∧ tk B j = 1 ∧ tq B j - tp B j = slen (kws n.toNat) ∧ ∀ y, 0 ≤ y → y < x → B (tp B j + y) = schar (kws n.toNat) y) ∨ (l = 0 ∧ kwd B j ≠ n)
theorem kwn {n : Int} (h : 0 ≤ n ∧ n ≤ 10) : kws n.toNat < 11 ∧ kwi (kws n.toNat) = n := by
  have := kws_r n.toNat (by omega)
  omega
theorem LK.y {N : Mem} {B : Int → Int} {j n x : Int} (h1 : tk B j = 1) (h2 : tq B j - tp B j = slen (kws n.toNat)) (hx : x = 0) : LK N B j n 1 x := Or.inl ⟨rfl, h1, h2, fun y a b => by omega⟩
theorem LK.n {N : Mem} {B : Int → Int} {j n x : Int} (hn : 0 ≤ n ∧ n ≤ 10) (h : tk B j ≠ 1 ∨ tq B j - tp B j ≠ slen (kws n.toNat)) : LK N B j n 0 x := Or.inr ⟨rfl, by
  have q := kwd_n1 (kwn hn).1 h
  rw [(kwn hn).2] at q
  exact q⟩
theorem LK.s1 {N N' : Mem} {B : Int → Int} {j n l x x' : Int} (h : LK N B j n l x) (hl : l ≠ 0) (e : B (tp B j + x) = schar (kws n.toNat) x) (hx : x' = x + 1) : LK N' B j n 1 x' := by
  rcases h with ⟨a, b, c, d⟩ | ⟨a, b⟩
  · refine Or.inl ⟨rfl, b, c, fun y p q => ?_⟩
    by_cases z : y = x
    · rw [z]; exact e
    · exact d y p (by omega)
  · exact absurd a hl
theorem LK.s0 {N : Mem} {B : Int → Int} {j n x x' : Int} (hn : 0 ≤ n ∧ n ≤ 10) (hx : 0 ≤ x ∧ x < slen (kws n.toNat)) (e : B (tp B j + x) ≠ schar (kws n.toNat) x) : LK N B j n 0 x' := Or.inr ⟨rfl, by
  have q := kwd_n2 (kwn hn).1 hx e
  rw [(kwn hn).2] at q
  exact q⟩
theorem LK.done {N : Mem} {B : Int → Int} {j n l x : Int} (h : LK N B j n l x) (hl : l ≠ 0) (hn : 0 ≤ n ∧ n ≤ 10) (hx : slen (kws n.toNat) ≤ x) : kwd B j = n := by
  rcases h with ⟨a, b, c, d⟩ | ⟨a, b⟩
  · have q := kwd_y ⟨b, c, fun y p q => d y p (by omega)⟩ (kwn hn).1
    rw [(kwn hn).2] at q
    exact q
  · exact absurd a hl
theorem LK.no {N : Mem} {B : Int → Int} {j n l x : Int} (h : LK N B j n l x) (hl : l = 0) : kwd B j ≠ n := by
  rcases h with ⟨a, b, c, d⟩ | ⟨a, b⟩
  · omega
  · exact b
/-! names -/
def TE (B : Int → Int) (i j : Int) : Prop := tq B i - tp B i = tq B j - tp B j ∧ ∀ x, 0 ≤ x → x < tq B j - tp B j → B (tp B i + x) = B (tp B j + x)
noncomputable def te (B : Int → Int) (i j : Int) : Int := @ite Int (TE B i j) (Classical.propDecidable _) 1 0
theorem te_y {B : Int → Int} {i j : Int} (h : TE B i j) : te B i j = 1 := by unfold te; exact if_pos h
theorem te_n {B : Int → Int} {i j : Int} (h : ¬ TE B i j) : te B i j = 0 := by unfold te; exact if_neg h
theorem te_n1 {B : Int → Int} {i j : Int} (h : tq B i - tp B i ≠ tq B j - tp B j) : te B i j = 0 := te_n (fun q => h q.1)
theorem te_n2 {B : Int → Int} {i j x : Int} (hx : 0 ≤ x ∧ x < tq B j - tp B j) (h : B (tp B i + x) ≠ B (tp B j + x)) : te B i j = 0 := te_n (fun q => h (q.2 x hx.1 hx.2))
def NQw (_ : Mem) (B : Int → Int) (i j x : Int) : Prop := ∀ y, 0 ≤ y → y < x → B (tp B i + y) = B (tp B j + y)
theorem NQw.nil {N : Mem} {B : Int → Int} {i j : Int} : NQw N B i j 0 := fun y a b => by omega
theorem NQw.step {N : Mem} {B : Int → Int} {i j x : Int} (h : NQw N B i j x) (h1 : B (tp B i + x) = B (tp B j + x)) : NQw N B i j (x + 1) := fun y a b => by
  by_cases q : y = x
  · rw [q]; exact h1
  · exact h y a (by omega)
theorem NQw.done {N : Mem} {B : Int → Int} {i j x : Int} (h : NQw N B i j x) (h1 : tq B i - tp B i = tq B j - tp B j) (h2 : tq B j - tp B j ≤ x) : te B i j = 1 := te_y ⟨h1, fun y a b => h y a (by omega)⟩
def pk (B : Int → Int) (p : Int) : Nat → Int
  | 0 => 0
  | k + 1 => 256 * pk B p k + B (p + k)
theorem pk_s (B : Int → Int) (p i : Int) (h : 0 ≤ i) : pk B p (i + 1).toNat = 256 * pk B p i.toNat + B (p + i) := by
  rw [show (i + 1).toNat = i.toNat + 1 by omega]
  show 256 * pk B p i.toNat + B (p + (i.toNat : Int)) = _
  rw [show ((i.toNat : Nat) : Int) = i by omega]
theorem pk_0 {B : Int → Int} {p : Int} : ∀ (k : Nat), (∀ i, p ≤ i → i < p + k → 97 ≤ B i ∧ B i ≤ 122) → 0 ≤ pk B p k
  | 0, _ => by show (0 : Int) ≤ 0; decide
  | k + 1, h => by
    have h1 := pk_0 k (fun i a b => h i a (by omega))
    have h2 := h (p + k) (by omega) (by omega)
    show 0 ≤ 256 * pk B p k + B (p + k)
    omega
theorem pk_b {B : Int → Int} {p : Int} : ∀ (k : Nat), (∀ i, p ≤ i → i < p + (k + 1 : Nat) → 97 ≤ B i ∧ B i ≤ 122) → pk B p (k + 1) < 123 * 256 ^ k
  | 0, h => by
    have h2 := h (p + (0 : Nat)) (by omega) (by omega)
    show 256 * 0 + B (p + (0 : Nat)) < 123 * 1
    omega
  | k + 1, h => by
    have h1 := pk_b k (fun i a b => h i a (by omega))
    have h2 := h (p + (k + 1 : Nat)) (by omega) (by omega)
    show 256 * pk B p (k + 1) + B (p + (k + 1 : Nat)) < 123 * 256 ^ (k + 1)
    rw [Int.pow_succ]
    omega
theorem pk_i {B : Int → Int} {p q : Int} : ∀ (m n : Nat), (∀ i, p ≤ i → i < p + m → 97 ≤ B i ∧ B i ≤ 122) → (∀ i, q ≤ i → i < q + n → 97 ≤ B i ∧ B i ≤ 122) → pk B p m = pk B q n → m = n ∧ ∀ x : Nat, x < m → B (p + x) = B (q + x)
  | 0, 0, _, _, _ => ⟨rfl, fun x h => by omega⟩
  | 0, n + 1, _, h2, e => by
    have a := pk_0 n (fun i a b => h2 i a (by omega))
    have b := h2 (q + n) (by omega) (by omega)
    have e2 : (0 : Int) = 256 * pk B q n + B (q + n) := e
    omega
  | m + 1, 0, h1, _, e => by
    have a := pk_0 m (fun i a b => h1 i a (by omega))
    have b := h1 (p + m) (by omega) (by omega)
    have e2 : 256 * pk B p m + B (p + m) = (0 : Int) := e
    omega
  | m + 1, n + 1, h1, h2, e => by
    have b1 := h1 (p + m) (by omega) (by omega)
    have b2 := h2 (q + n) (by omega) (by omega)
    have e2 : 256 * pk B p m + B (p + m) = 256 * pk B q n + B (q + n) := e
    obtain ⟨r1, r2⟩ := pk_i m n (fun i a b => h1 i a (by omega)) (fun i a b => h2 i a (by omega)) (by omega)
    subst r1
    refine ⟨rfl, fun x hx => ?_⟩
    by_cases z : x = m
    · subst z; omega
    · exact r2 x (by omega)
/-- a token that may be a name -/
def nmt (B : Int → Int) (j : Int) : Prop := 0 ≤ j ∧ tk B j = 1 ∧ tq B j - tp B j ≤ 8
noncomputable def tpk (B : Int → Int) (j : Int) : Int := pk B (tp B j) (tq B j - tp B j).toNat
theorem nm_l {B : Int → Int} {n j : Int} (hT : TX B n) (h : nmt B j) : ∀ i, tp B j ≤ i → i < tq B j → 97 ≤ B i ∧ B i ≤ 122 := fun i a b => by
  have e := tk_in hT h.1 (Or.inl h.2.1) i a b
  have c := ck_c (B i)
  have := h.2.1
  omega
theorem nm_p {B : Int → Int} {n j : Int} (hT : TX B n) (h : nmt B j) : tp B j < tq B j := by
  have := tq_end hT h.1
  have := h.2.1
  omega
theorem tpk_e {B : Int → Int} {n i j : Int} (hT : TX B n) (hi : nmt B i) (hj : nmt B j) : (tpk B i = tpk B j ∧ te B i j = 1) ∨ (tpk B i ≠ tpk B j ∧ te B i j = 0) := by
  have pi := nm_p hT hi
  have pj := nm_p hT hj
  by_cases h : TE B i j
  · refine Or.inl ⟨?_, te_y h⟩
    unfold tpk
    rw [h.1]
    have g : ∀ k : Nat, (k : Int) ≤ tq B j - tp B j → pk B (tp B i) k = pk B (tp B j) k := by
      intro k
      induction k with
      | zero => intro _; rfl
      | succ k ih =>
        intro hk
        show 256 * pk B (tp B i) k + B (tp B i + k) = 256 * pk B (tp B j) k + B (tp B j + k)
        rw [ih (by omega), h.2 k (by omega) (by omega)]
    exact g _ (by omega)
  · refine Or.inr ⟨fun e => h ?_, te_n h⟩
    obtain ⟨a, b⟩ := pk_i _ _ (fun x p q => nm_l hT hi x p (by omega)) (fun x p q => nm_l hT hj x p (by omega)) e
    refine ⟨by omega, fun x p q => ?_⟩
    have := b x.toNat (by omega)
    rw [show ((x.toNat : Nat) : Int) = x by omega] at this
    exact this
/-- the LETTER of a name, by the tokens of the names told -/
noncomputable def lfn (B : Int → Int) (t : Int → Int) (a b c j : Int) : Int := if 0 < a ∧ te B (t 0) j = 1 then 0 else if 1 < a ∧ te B (t 1) j = 1 then 1 else if 0 < b ∧ te B (t 2) j = 1 then a else if 1 < b ∧ te B (t 3) j = 1 then a + 1 else if 0 < c ∧ te B (t 4) j = 1 then a + b else if 1 < c ∧ te B (t 5) j = 1 then a + b + 1 else -1
theorem lfn_c (B : Int → Int) (t : Int → Int) (a b c j : Int) (ha : 0 ≤ a ∧ a ≤ 2) (hb : 0 ≤ b ∧ b ≤ 2) (hc : 0 ≤ c ∧ c ≤ 2) : -1 ≤ lfn B t a b c j ∧ lfn B t a b c j < a + b + c ∧ ((0 < a ∧ te B (t 0) j = 1 ∧ lfn B t a b c j = 0) ∨ (¬ (0 < a ∧ te B (t 0) j = 1) ∧ ((1 < a ∧ te B (t 1) j = 1 ∧ lfn B t a b c j = 1) ∨ (¬ (1 < a ∧ te B (t 1) j = 1) ∧ ((0 < b ∧ te B (t 2) j = 1 ∧ lfn B t a b c j = a) ∨ (¬ (0 < b ∧ te B (t 2) j = 1) ∧ ((1 < b ∧ te B (t 3) j = 1 ∧ lfn B t a b c j = a + 1) ∨ (¬ (1 < b ∧ te B (t 3) j = 1) ∧ ((0 < c ∧ te B (t 4) j = 1 ∧ lfn B t a b c j = a + b) ∨ (¬ (0 < c ∧ te B (t 4) j = 1) ∧ ((1 < c ∧ te B (t 5) j = 1 ∧ lfn B t a b c j = a + b + 1) ∨ (¬ (1 < c ∧ te B (t 5) j = 1) ∧ lfn B t a b c j = -1)))))))))))) := by
  unfold lfn
  by_cases h0 : 0 < a ∧ te B (t 0) j = 1
  · rw [if_pos h0]; exact ⟨by omega, by omega, Or.inl ⟨h0.1, h0.2, rfl⟩⟩
  rw [if_neg h0]
  by_cases h1 : 1 < a ∧ te B (t 1) j = 1
  · rw [if_pos h1]; exact ⟨by omega, by omega, Or.inr ⟨h0, Or.inl ⟨h1.1, h1.2, rfl⟩⟩⟩
  rw [if_neg h1]
  by_cases h2 : 0 < b ∧ te B (t 2) j = 1
  · rw [if_pos h2]; exact ⟨by omega, by omega, Or.inr ⟨h0, Or.inr ⟨h1, Or.inl ⟨h2.1, h2.2, rfl⟩⟩⟩⟩
  rw [if_neg h2]
  by_cases h3 : 1 < b ∧ te B (t 3) j = 1
  · rw [if_pos h3]; exact ⟨by omega, by omega, Or.inr ⟨h0, Or.inr ⟨h1, Or.inr ⟨h2, Or.inl ⟨h3.1, h3.2, rfl⟩⟩⟩⟩⟩
  rw [if_neg h3]
  by_cases h4 : 0 < c ∧ te B (t 4) j = 1
  · rw [if_pos h4]; exact ⟨by omega, by omega, Or.inr ⟨h0, Or.inr ⟨h1, Or.inr ⟨h2, Or.inr ⟨h3, Or.inl ⟨h4.1, h4.2, rfl⟩⟩⟩⟩⟩⟩
  rw [if_neg h4]
  by_cases h5 : 1 < c ∧ te B (t 5) j = 1
  · rw [if_pos h5]; exact ⟨by omega, by omega, Or.inr ⟨h0, Or.inr ⟨h1, Or.inr ⟨h2, Or.inr ⟨h3, Or.inr ⟨h4, Or.inl ⟨h5.1, h5.2, rfl⟩⟩⟩⟩⟩⟩⟩
  rw [if_neg h5]
  exact ⟨by omega, by omega, Or.inr ⟨h0, Or.inr ⟨h1, Or.inr ⟨h2, Or.inr ⟨h3, Or.inr ⟨h4, Or.inr ⟨h5, rfl⟩⟩⟩⟩⟩⟩⟩
noncomputable def nm (B : Int → Int) (j : Int) : Int := if tk B j = 1 ∧ tq B j - tp B j ≤ 8 ∧ kwd B j = -1 then 1 else 0
theorem nm_c (B : Int → Int) (j : Int) : (nm B j = 1 ∧ tk B j = 1 ∧ tq B j - tp B j ≤ 8 ∧ kwd B j = -1) ∨ (nm B j = 0 ∧ (tk B j ≠ 1 ∨ 9 ≤ tq B j - tp B j ∨ kwd B j ≠ -1)) := by
  unfold nm
  by_cases h : tk B j = 1 ∧ tq B j - tp B j ≤ 8 ∧ kwd B j = -1
  · left; rw [if_pos h]; exact ⟨rfl, h⟩
  · right; rw [if_neg h]
    refine ⟨rfl, ?_⟩
    by_cases h1 : tk B j = 1
    · by_cases h2 : tq B j - tp B j ≤ 8
      · right; right; exact fun e => h ⟨h1, h2, e⟩
      · right; left; omega
    · left; exact h1
theorem nm_t {B : Int → Int} {j : Int} (hj : 0 ≤ j) (h : nm B j = 1) : nmt B j := by
  have := nm_c B j
  exact ⟨hj, by omega, by omega⟩
/-- the names that are told, in the class -/
def NU (M : Mem) (c : Int) (B : Int → Int) (t : Int → Int) (q : Int → Int) : Prop := ∀ s, 0 ≤ s → s ≤ 5 → s - 2 * (s / 2) < q (s / 2) → nmt B (t s) ∧ M (M c 10) s = tp B (t s) ∧ M (M c 11) s = tq B (t s) - tp B (t s)
theorem NU.g {M : Mem} {c s k : Int} {B t q : Int → Int} (h : NU M c B t q) (hs : 0 ≤ s ∧ s ≤ 5) (hk : k = s / 2) (hq : s - 2 * k < q k) : nmt B (t s) ∧ M (M c 10) s = tp B (t s) ∧ M (M c 11) s = tq B (t s) - tp B (t s) := by
  subst hk; exact h s hs.1 hs.2 hq
theorem NU.fr {L : List (Nat × Int)} {M N : Mem} {c : Int} {B t q : Int → Int} (h : NU M c B t q) (hI : Inv false M) (hk : kd c = 17) (hF : Fr L M N) (hL : (!(fin L 17 10) && !(fin L 17 11) && L.all (fun p => !(p.1 == 19)) && L.all (fun p => !(p.1 == 20))) = true) : NU N c B t q := fun s a b d => by
  simp only [Bool.and_eq_true, Bool.not_eq_true'] at hL
  have e4 := hF.e hk 10 hL.1.1.1
  have e5 := hF.e hk 11 hL.1.1.2
  have e6 := hF.fn (Inv.r hI hk rfl 10 rfl rfl) hL.1.2
  have e7 := hF.fn (Inv.r hI hk rfl 11 rfl rfl) hL.2
  rw [e4, e5, e6, e7]
  exact h s a b d
/-- and in the reference -/
def NR (M : Mem) (B : Int → Int) (t : Int → Int) (q : Int → Int) : Prop := ∀ s, 0 ≤ s → s ≤ 5 → s - 2 * (s / 2) < q (s / 2) → nmt B (t s) ∧ M 165 (24 + s) = tpk B (t s)
theorem NR.g {M : Mem} {s k : Int} {B t q : Int → Int} (h : NR M B t q) (hs : 0 ≤ s ∧ s ≤ 5) (hk : k = s / 2) (hq : s - 2 * k < q k) : nmt B (t s) ∧ M 165 (24 + s) = tpk B (t s) := by
  subst hk; exact h s hs.1 hs.2 hq
theorem NR.fr {L : List (Nat × Int)} {M N : Mem} {B t q : Int → Int} (h : NR M B t q) (hF : Fr L M N) (hL : L.all (fun p => !(p.1 == 66)) = true) : NR N B t q := fun s a b d => by
  rw [hF.fn kd_165 hL]; exact h s a b d
def PKm (_ : Mem) (B : Int → Int) (j v k : Int) : Prop := v = pk B (tp B j) (k - tp B j).toNat
theorem PKm.nil {N : Mem} {B : Int → Int} {j k : Int} (h : k = tp B j) : PKm N B j 0 k := by
  unfold PKm; rw [h, show (tp B j - tp B j).toNat = 0 by omega]; rfl
theorem PKm.step {N : Mem} {B : Int → Int} {j v k : Int} (h : PKm N B j v k) (hk : tp B j ≤ k) {v' : Int} (hv : v' = 256 * v + B k) : PKm N B j v' (k + 1) := by
  unfold PKm at h ⊢
  rw [hv, h, show k + 1 - tp B j = (k - tp B j) + 1 by omega, pk_s B _ _ (by omega), show tp B j + (k - tp B j) = k by omega]
theorem PKm.b {N : Mem} {B : Int → Int} {n j v k : Int} (h : PKm N B j v k) (hT : TX B n) (hm : nmt B j) (hk : tp B j ≤ k ∧ k < tq B j) : 0 ≤ v ∧ v < 36028797018963968 := by
  have hl := hm.2.2
  have g := nm_l hT hm
  unfold PKm at h
  have h0 := pk_0 (B := B) (p := tp B j) (k - tp B j).toNat (fun i a b => g i a (by omega))
  rw [← h] at h0
  refine ⟨h0, ?_⟩
  obtain ⟨x, hx⟩ : ∃ x : Nat, (k - tp B j).toNat = x := ⟨_, rfl⟩
  rw [hx] at h
  have hx7 : x = 0 ∨ x = 1 ∨ x = 2 ∨ x = 3 ∨ x = 4 ∨ x = 5 ∨ x = 6 ∨ x = 7 := by omega
  have pb : ∀ y : Nat, x = y + 1 → v < 123 * 256 ^ y := fun y hy => by
    rw [h, hy]; exact pk_b y (fun i a b => g i a (by omega))
  rcases hx7 with e | e | e | e | e | e | e | e
  · rw [h, e]; show (0 : Int) < _; decide
  · have := pb 0 e; omega
  · have := pb 1 e; omega
  · have := pb 2 e; omega
  · have := pb 3 e; omega
  · have := pb 4 e; omega
  · have := pb 5 e; omega
  · have := pb 6 e; omega
theorem PKm.done {N : Mem} {B : Int → Int} {j v k : Int} (h : PKm N B j v k) (hk : k = tq B j) : v = tpk B j := by
  unfold PKm at h; unfold tpk; rw [h, hk]
/-- no name told ahead of a slot is that of the token -/
def FNo (_ : Mem) (B t q : Int → Int) (j s : Int) : Prop := ∀ y, 0 ≤ y → y < s → y - 2 * (y / 2) < q (y / 2) → te B (t y) j = 0
theorem FNo.nil {N : Mem} {B t q : Int → Int} {j s : Int} (h : s = 0) : FNo N B t q j s := fun y a b => by omega
theorem FNo.step {N N' : Mem} {B t q : Int → Int} {j s s' : Int} (h : FNo N B t q j s) (h1 : te B (t s) j = 0) (hs : s' = s + 1) : FNo N' B t q j s' := fun y a b c => by
  by_cases e : y = s
  · rw [e]; exact h1
  · exact h y a (by omega) c
theorem FNo.skip {N N' : Mem} {B t q : Int → Int} {j k i s s' : Int} (h : FNo N B t q j s) (hs : s = 2 * k + i) (hi : 0 ≤ i ∧ i ≤ 2) (hq : q k ≤ i) (hs' : s' = 2 * k + 2) : FNo N' B t q j s' := fun y a b c => by
  by_cases e : y < s
  · exact h y a e c
  · have e2 : y / 2 = k := by omega
    rw [e2] at c
    omega
theorem FNo.n {N : Mem} {B t q : Int → Int} {j s : Int} (h : FNo N B t q j s) (y k i : Int) (hy : y = 2 * k + i) (hk : 0 ≤ k) (hi : 0 ≤ i ∧ i ≤ 1) (hs : y < s) : ¬ (i < q k ∧ te B (t y) j = 1) := fun e => by
  have e2 : y / 2 = k := by omega
  have := h y (by omega) hs (by rw [e2]; omega)
  omega
theorem FNo.fin {N : Mem} {B t q : Int → Int} {j s : Int} (h : FNo N B t q j s) (hs : 6 ≤ s) : lfn B t (q 0) (q 1) (q 2) j = -1 := by
  unfold lfn
  rw [if_neg (h.n 0 0 0 (by decide) (by decide) (by decide) (by omega)), if_neg (h.n 1 0 1 (by decide) (by decide) (by decide) (by omega)), if_neg (h.n 2 1 0 (by decide) (by decide) (by decide) (by omega)), if_neg (h.n 3 1 1 (by decide) (by decide) (by decide) (by omega)), if_neg (h.n 4 2 0 (by decide) (by decide) (by decide) (by omega)), if_neg (h.n 5 2 1 (by decide) (by decide) (by decide) (by omega))]
theorem FNo.hit {N : Mem} {B t q : Int → Int} {j k i : Int} (h : FNo N B t q j (2 * k + i)) (hk : 0 ≤ k ∧ k ≤ 2) (hi : 0 ≤ i ∧ i < q k ∧ q k ≤ 2) (h1 : te B (t (2 * k + i)) j = 1) : (k = 0 ∧ lfn B t (q 0) (q 1) (q 2) j = i) ∨ (k = 1 ∧ lfn B t (q 0) (q 1) (q 2) j = q 0 + i) ∨ (k = 2 ∧ lfn B t (q 0) (q 1) (q 2) j = q 0 + q 1 + i) := by
  have hk3 : k = 0 ∨ k = 1 ∨ k = 2 := by omega
  have hi2 : i = 0 ∨ i = 1 := by omega
  rcases hk3 with e | e | e
  · subst e
    refine Or.inl ⟨rfl, ?_⟩
    rcases hi2 with e | e
    · subst e
      have h2 : te B (t 0) j = 1 := h1
      unfold lfn
      rw [if_pos ⟨hi.2.1, h2⟩]
    · subst e
      have h2 : te B (t 1) j = 1 := h1
      unfold lfn
      rw [if_neg (h.n 0 0 0 (by decide) (by decide) (by decide) (by decide)), if_pos ⟨hi.2.1, h2⟩]
  · subst e
    refine Or.inr (Or.inl ⟨rfl, ?_⟩)
    rcases hi2 with e | e
    · subst e
      have h2 : te B (t 2) j = 1 := h1
      unfold lfn
      rw [if_neg (h.n 0 0 0 (by decide) (by decide) (by decide) (by decide)), if_neg (h.n 1 0 1 (by decide) (by decide) (by decide) (by decide)), if_pos ⟨hi.2.1, h2⟩, Int.add_zero]
    · subst e
      have h2 : te B (t 3) j = 1 := h1
      unfold lfn
      rw [if_neg (h.n 0 0 0 (by decide) (by decide) (by decide) (by decide)), if_neg (h.n 1 0 1 (by decide) (by decide) (by decide) (by decide)), if_neg (h.n 2 1 0 (by decide) (by decide) (by decide) (by decide)), if_pos ⟨hi.2.1, h2⟩]
  · subst e
    refine Or.inr (Or.inr ⟨rfl, ?_⟩)
    rcases hi2 with e | e
    · subst e
      have h2 : te B (t 4) j = 1 := h1
      unfold lfn
      rw [if_neg (h.n 0 0 0 (by decide) (by decide) (by decide) (by decide)), if_neg (h.n 1 0 1 (by decide) (by decide) (by decide) (by decide)), if_neg (h.n 2 1 0 (by decide) (by decide) (by decide) (by decide)), if_neg (h.n 3 1 1 (by decide) (by decide) (by decide) (by decide)), if_pos ⟨hi.2.1, h2⟩, Int.add_zero]
    · subst e
      have h2 : te B (t 5) j = 1 := h1
      unfold lfn
      rw [if_neg (h.n 0 0 0 (by decide) (by decide) (by decide) (by decide)), if_neg (h.n 1 0 1 (by decide) (by decide) (by decide) (by decide)), if_neg (h.n 2 1 0 (by decide) (by decide) (by decide) (by decide)), if_neg (h.n 3 1 1 (by decide) (by decide) (by decide) (by decide)), if_neg (h.n 4 2 0 (by decide) (by decide) (by decide) (by decide)), if_pos ⟨hi.2.1, h2⟩]
theorem lfn_b (B : Int → Int) (t : Int → Int) (a b c j : Int) (ha : 0 ≤ a ∧ a ≤ 2) (hb : 0 ≤ b ∧ b ≤ 2) (hc : 0 ≤ c ∧ c ≤ 2) : -1 ≤ lfn B t a b c j ∧ lfn B t a b c j < a + b + c := ⟨(lfn_c B t a b c j ha hb hc).1, (lfn_c B t a b c j ha hb hc).2.1⟩
theorem NU.st {M N : Mem} {c d i v : Int} {B t q : Int → Int} (h : NU M c B t q) (hI : Inv false M) (hk : kd c = 17) (hN : N = mu M d i v) {k : Nat} (hd : kd d = k) (hn : ((17 == k) || (19 == k) || (20 == k)) = false) : NU N c B t q := fun s a b e => by
  simp only [Bool.or_eq_false_iff] at hn
  have k10 := Inv.r hI hk rfl 10 rfl rfl
  have k11 := Inv.r hI hk rfl 11 rfl rfl
  rw [hN, mu_k hk hd hn.1.1, mu_k hk hd hn.1.1, mu_k k10 hd hn.1.2, mu_k k11 hd hn.2]
  exact h s a b e
/-! longs: eight bits more -/
theorem zlb_of {a : Int} (h : 0 ≤ a ∧ a < 9223372036854775808) : (Int64.ofInt a).toBitVec.toNat = a.toNat := by
  have h1 : (Int64.ofInt a).toBitVec = BitVec.ofInt 64 a := rfl
  rw [h1, BitVec.toNat_ofInt]
  congr 1
  omega
theorem zl8 (x : Int) : Int64.ofInt x <<< ((Int32.ofInt 8).toInt64 &&& 63) = Int64.ofInt (256 * x) := by
  have e0 : (Int32.ofInt 8).toInt64 &&& 63 = (8 : Int64) := by decide
  rw [e0, Int64.ofInt_mul]
  apply Int64.toBitVec_inj.mp
  rw [Int64.toBitVec_shiftLeft, Int64.toBitVec_mul]
  apply BitVec.eq_of_toNat_eq
  have e1 : ((8 : Int64).toBitVec.smod 64).toNat = 8 := by decide
  have e2 : (Int64.ofInt 256).toBitVec.toNat = 256 := by decide
  rw [BitVec.shiftLeft_eq', BitVec.toNat_shiftLeft, BitVec.toNat_mul, Nat.shiftLeft_eq, e1, e2, Nat.mul_comm]
theorem zlor {x y : Int} (hx : 0 ≤ x ∧ x < 36028797018963968) (hy : 0 ≤ y ∧ y < 256) : Int64.ofInt (256 * x) ||| Int64.ofInt y = Int64.ofInt (256 * x + y) := by
  apply Int64.toBitVec_inj.mp
  rw [Int64.toBitVec_or]
  apply BitVec.eq_of_toNat_eq
  rw [BitVec.toNat_or, zlb_of (a := 256 * x) ⟨by omega, by omega⟩, zlb_of (a := y) ⟨by omega, by omega⟩, zlb_of (a := 256 * x + y) ⟨by omega, by omega⟩]
  have e : (256 * x).toNat = x.toNat <<< 8 := by rw [Nat.shiftLeft_eq]; omega
  rw [e, ← Nat.shiftLeft_add_eq_or_of_lt (show y.toNat < 2 ^ 8 by omega), ← e]
  omega
section KXL
variable {B : Bool} {G : KG} {X : KX} {l : Launch} {cc : ByteArray} {own : String} {nL : Nat} {ret : Option FieldType} {R : Room} {M : Mem} {pc : Nat} {lo : List (Option Value)} {st : List Value}
theorem kx_lshl8 (pc' : Nat) (F : kF B G X l cc own nL ret R) {x : Int} (hdg : decode cc pc = .ok (.lshl, 1)) (hp : pc + 1 = pc') (k : KJ B G X M pc' lo (vL (256 * x) :: st)) : KJ B G X M pc lo (vI 8 :: vL x :: st) := jy_lshl F.1 hdg (zl8 x) hp k
theorem kx_lor8 (pc' : Nat) (F : kF B G X l cc own nL ret R) {x y z v : Int} (hz : z = 256 * x) (hv : v = 256 * x + y) (hx : 0 ≤ x ∧ x < 36028797018963968) (hy : 0 ≤ y ∧ y < 256) (hdg : decode cc pc = .ok (.lor, 1)) (hp : pc + 1 = pc') (k : KJ B G X M pc' lo (vL v :: st)) : KJ B G X M pc lo (vL y :: vL z :: st) := by
  subst hz; subst hv; exact jy_lor F.1 hdg (zlor hx hy) hp k
end KXL
