/-! keywords among the tokens -/
def tis (B : Int → Int) (j : Int) (s : Nat) : Prop := tk B j = 1 ∧ tq B j - tp B j = slen s ∧ ∀ x, 0 ≤ x → x < slen s → B (tp B j + x) = schar s x
def kwl : List Nat := [0, 1, 2, 3, 5, 6, 7, 4, 8, 9, 10]
def kws (k : Nat) : Nat := kwl.getD k 0
def kil : List Int := [0, 1, 2, 3, 7, 4, 5, 6, 8, 9, 10]
def kwi (s : Nat) : Int := kil.getD s (-2)
theorem kwi_r : ∀ s, s < 11 → 0 ≤ kwi s ∧ kwi s ≤ 10 ∧ kws (kwi s).toNat = s := by decide +kernel
theorem kws_r : ∀ k, k < 11 → kws k < 11 ∧ kwi (kws k) = (k : Int) := by decide +kernel
def kwP (B : Int → Int) (j k : Int) : Prop := (0 ≤ k ∧ k ≤ 10 ∧ tis B j (kws k.toNat)) ∨ (k = -1 ∧ ∀ s, s < 11 → ¬ tis B j s)
theorem kwP.ex (B : Int → Int) (j : Int) : ∃ k, kwP B j k := by
  by_cases h : ∃ s, s < 11 ∧ tis B j s
  · obtain ⟨s, hs, ht⟩ := h
    have q := kwi_r s hs
    exact ⟨kwi s, Or.inl ⟨q.1, q.2.1, by rw [q.2.2]; exact ht⟩⟩
  · exact ⟨-1, Or.inr ⟨rfl, fun s hs ht => h ⟨s, hs, ht⟩⟩⟩
noncomputable def kwd (B : Int → Int) (j : Int) : Int := Classical.epsilon (kwP B j)
theorem kwd_s (B : Int → Int) (j : Int) : kwP B j (kwd B j) := Classical.epsilon_spec (kwP.ex B j)
theorem kwd_n {B : Int → Int} {j : Int} {s : Nat} (h : ¬ tis B j s) (hs : s < 11) : kwd B j ≠ kwi s := fun e => by
  have h1 := kwi_r s hs
  rcases kwd_s B j with ⟨a, b, c⟩ | ⟨a, b⟩
  · rw [e, h1.2.2] at c; exact h c
  · omega
theorem kwd_n1 {B : Int → Int} {j : Int} {s : Nat} (hs : s < 11) (h : tk B j ≠ 1 ∨ tq B j - tp B j ≠ slen s) : kwd B j ≠ kwi s := kwd_n (fun q => by
  rcases h with a | a
  · exact a q.1
  · exact a q.2.1) hs
theorem kwd_0 {B : Int → Int} {j : Int} (h : tk B j ≠ 1) : kwd B j = -1 := by
  rcases kwd_s B j with ⟨a, b, c⟩ | ⟨a, b⟩
  · exact absurd c.1 h
  · exact a
/-! the words of one text, one behind the other -/
def ksl : List Int := [1, 6, 10, 16, 26, 32, 39, 44, 52, 57, 61, 67]
def kst (k : Nat) : Int := ksl.getD k 67
theorem kst_b : ∀ k, k < 12 → 1 ≤ kst k ∧ kst k ≤ 67 ∧ (k < 11 → kst k ≤ 61) := by decide +kernel
def OW (_ : Mem) (B : Int → Int) (j n k : Int) : Prop := 0 ≤ n ∧ n ≤ 11 ∧ k = kst n.toNat ∧ ∀ m : Nat, (m : Int) < n → kwd B j ≠ (m : Int)
theorem OW.b {N : Mem} {B : Int → Int} {j n k : Int} (h : OW N B j n k) : 0 ≤ n ∧ n ≤ 11 ∧ 1 ≤ k ∧ k ≤ 67 ∧ (n ≤ 10 ∧ k ≤ 61 ∨ n = 11 ∧ k = 67) := by
  obtain ⟨h1, h2, h3, -⟩ := h
  have q := kst_b n.toNat (by omega)
  by_cases e : n = 11
  · subst e
    have : kst (11 : Int).toNat = 67 := rfl
    omega
  · have := q.2.2 (by omega)
    omega
def LK (_ : Mem) (B : Int → Int) (j n l x : Int) : Prop := (l = 1 ∧ tk B j = 1 ∧ tq B j - tp B j = slen (kws n.toNat) ∧ ∀ y, 0 ≤ y → y < x → B (tp B j + y) = schar (kws n.toNat) y) ∨ (l = 0 ∧ kwd B j ≠ n)
theorem kwn {n : Int} (h : 0 ≤ n ∧ n ≤ 10) : kws n.toNat < 11 ∧ kwi (kws n.toNat) = n := by
  have := kws_r n.toNat (by omega)
  omega
theorem LK.n {N : Mem} {B : Int → Int} {j n x : Int} (hn : 0 ≤ n ∧ n ≤ 10) (h : tk B j ≠ 1 ∨ tq B j - tp B j ≠ slen (kws n.toNat)) : LK N B j n 0 x := Or.inr ⟨rfl, by
  have q := kwd_n1 (kwn hn).1 h
  rw [(kwn hn).2] at q
  exact q⟩
theorem LK.no {N : Mem} {B : Int → Int} {j n l x : Int} (h : LK N B j n l x) (hl : l = 0) : kwd B j ≠ n := by
  rcases h with ⟨a, b, c, d⟩ | ⟨a, b⟩
  · omega
  · exact b
/-! names -/
def TE (B : Int → Int) (i j : Int) : Prop := tq B i - tp B i = tq B j - tp B j ∧ ∀ x, 0 ≤ x → x < tq B j - tp B j → B (tp B i + x) = B (tp B j + x)
noncomputable def te (B : Int → Int) (i j : Int) : Int := @ite Int (TE B i j) (Classical.propDecidable _) 1 0
def pk (B : Int → Int) (p : Int) : Nat → Int
  | 0 => 0
  | k + 1 => 256 * pk B p k + B (p + k)
theorem pk_0 {B : Int → Int} {p : Int} : ∀ (k : Nat), (∀ i, p ≤ i → i < p + k → 97 ≤ B i ∧ B i ≤ 122) → 0 ≤ pk B p k
  | 0, _ => by show (0 : Int) ≤ 0; decide
  | k + 1, h => by
    have h1 := pk_0 k (fun i a b => h i a (by omega))
    have h2 := h (p + k) (by omega) (by omega)
    show 0 ≤ 256 * pk B p k + B (p + k)
    omega
theorem pk_b {B : Int → Int} {p : Int} : ∀ (k : Nat), (∀ i, p ≤ i → i < p + (k + 1 : Nat) → 97 ≤ B i ∧ B i ≤ 122) → pk B p (k + 1) < 123 * 256 ^ k
  | 0, h => by
    have h2 := h (p + (0 : Nat)) (by omega) (by omega)
    show 256 * 0 + B (p + (0 : Nat)) < 123 * 1
    omega
  | k + 1, h => by
    have h1 := pk_b k (fun i a b => h i a (by omega))
    have h2 := h (p + (k + 1 : Nat)) (by omega) (by omega)
    show 256 * pk B p (k + 1) + B (p + (k + 1 : Nat)) < 123 * 256 ^ (k + 1)
    rw [Int.pow_succ]
    omega
/-- a token that may be a name -/
def nmt (B : Int → Int) (j : Int) : Prop := 0 ≤ j ∧ tk B j = 1 ∧ tq B j - tp B j ≤ 8
noncomputable def tpk (B : Int → Int) (j : Int) : Int := pk B (tp B j) (tq B j - tp B j).toNat
theorem nm_l {B : Int → Int} {n j : Int} (hT : TX B n) (h : nmt B j) : ∀ i, tp B j ≤ i → i < tq B j → 97 ≤ B i ∧ B i ≤ 122 := fun i a b => by
  have e := tk_in hT h.1 (Or.inl h.2.1) i a b
  have c := ck_c (B i)
  have := h.2.1
  omega
/-- the LETTER of a name, by the tokens of the names told -/
noncomputable def lfn (B : Int → Int) (t : Int → Int) (a b c j : Int) : Int := if 0 < a ∧ te B (t 0) j = 1 then 0 else if 1 < a ∧ te B (t 1) j = 1 then 1 else if 0 < b ∧ te B (t 2) j = 1 then a else if 1 < b ∧ te B (t 3) j = 1 then a + 1 else if 0 < c ∧ te B (t 4) j = 1 then a + b else if 1 < c ∧ te B (t 5) j = 1 then a + b + 1 else -1
noncomputable def nm (B : Int → Int) (j : Int) : Int := if tk B j = 1 ∧ tq B j - tp B j ≤ 8 ∧ kwd B j = -1 then 1 else 0
/-- the names that are told, in the class -/
def NU (M : Mem) (c : Int) (B : Int → Int) (t : Int → Int) (q : Int → Int) : Prop := ∀ s, 0 ≤ s → s ≤ 5 → s - 2 * (s / 2) < q (s / 2) → nmt B (t s) ∧ M (M c 10) s = tp B (t s) ∧ M (M c 11) s = tq B (t s) - tp B (t s)
theorem NU.g {M : Mem} {c s k : Int} {B t q : Int → Int} (h : NU M c B t q) (hs : 0 ≤ s ∧ s ≤ 5) (hk : k = s / 2) (hq : s - 2 * k < q k) : nmt B (t s) ∧ M (M c 10) s = tp B (t s) ∧ M (M c 11) s = tq B (t s) - tp B (t s) := by
  subst hk; exact h s hs.1 hs.2 hq
theorem NU.fr {L : List (Nat × Int)} {M N : Mem} {c : Int} {B t q : Int → Int} (h : NU M c B t q) (hI : Inv false M) (hk : kd c = 17) (hF : Fr L M N) (hL : (!(fin L 17 10) && !(fin L 17 11) && L.all (fun p => !(p.1 == 19)) && L.all (fun p => !(p.1 == 20))) = true) : NU N c B t q := fun s a b d => by
  simp only [Bool.and_eq_true, Bool.not_eq_true'] at hL
  have e4 := hF.e hk 10 hL.1.1.1
  have e5 := hF.e hk 11 hL.1.1.2
  have e6 := hF.fn (Inv.r hI hk rfl 10 rfl rfl) hL.1.2
  have e7 := hF.fn (Inv.r hI hk rfl 11 rfl rfl) hL.2
  rw [e4, e5, e6, e7]
  exact h s a b d
/-- and in the reference -/
def NR (M : Mem) (B : Int → Int) (t : Int → Int) (q : Int → Int) : Prop := ∀ s, 0 ≤ s → s ≤ 5 → s - 2 * (s / 2) < q (s / 2) → nmt B (t s) ∧ M 165 (24 + s) = tpk B (t s)
theorem NR.g {M : Mem} {s k : Int} {B t q : Int → Int} (h : NR M B t q) (hs : 0 ≤ s ∧ s ≤ 5) (hk : k = s / 2) (hq : s - 2 * k < q k) : nmt B (t s) ∧ M 165 (24 + s) = tpk B (t s) := by
  subst hk; exact h s hs.1 hs.2 hq
theorem NR.fr {L : List (Nat × Int)} {M N : Mem} {B t q : Int → Int} (h : NR M B t q) (hF : Fr L M N) (hL : L.all (fun p => !(p.1 == 66)) = true) : NR N B t q := fun s a b d => by
  rw [hF.fn kd_165 hL]; exact h s a b d
def PKm (_ : Mem) (B : Int → Int) (j v k : Int) : Prop := v = pk B (tp B j) (k - tp B j).toNat
theorem PKm.b {N : Mem} {B : Int → Int} {n j v k : Int} (h : PKm N B j v k) (hT : TX B n) (hm : nmt B j) (hk : tp B j ≤ k ∧ k < tq B j) : 0 ≤ v ∧ v < 36028797018963968 := by
  have hl := hm.2.2
  have g := nm_l hT hm
  unfold PKm at h
  have h0 := pk_0 (B := B) (p := tp B j) (k - tp B j).toNat (fun i a b => g i a (by omega))
  rw [← h] at h0
  refine ⟨h0, ?_⟩
  obtain ⟨x, hx⟩ : ∃ x : Nat, (k - tp B j).toNat = x := ⟨_, rfl⟩
  rw [hx] at h
  have hx7 : x = 0 ∨ x = 1 ∨ x = 2 ∨ x = 3 ∨ x = 4 ∨ x = 5 ∨ x = 6 ∨ x = 7 := by omega
  have pb : ∀ y : Nat, x = y + 1 → v < 123 * 256 ^ y := fun y hy => by
    rw [h, hy]; exact pk_b y (fun i a b => g i a (by omega))
  rcases hx7 with e | e | e | e | e | e | e | e
  · rw [h, e]; show (0 : Int) < _; decide
  · have := pb 0 e; omega
  · have := pb 1 e; omega
  · have := pb 2 e; omega
  · have := pb 3 e; omega
  · have := pb 4 e; omega
  · have := pb 5 e; omega
  · have := pb 6 e; omega
/-- no name told ahead of a slot is that of the token -/
def FNo (_ : Mem) (B t q : Int → Int) (j s : Int) : Prop := ∀ y, 0 ≤ y → y < s → y - 2 * (y / 2) < q (y / 2) → te B (t y) j = 0
theorem FNo.n {N : Mem} {B t q : Int → Int} {j s : Int} (h : FNo N B t q j s) (y k i : Int) (hy : y = 2 * k + i) (hk : 0 ≤ k) (hi : 0 ≤ i ∧ i ≤ 1) (hs : y < s) : ¬ (i < q k ∧ te B (t y) j = 1) := fun e => by
  have e2 : y / 2 = k := by omega
  have := h y (by omega) hs (by rw [e2]; omega)
  omega
section KXL
variable {B : Bool} {G : KG} {X : KX} {l : Launch} {cc : ByteArray} {own : String} {nL : Nat} {ret : Option FieldType} {R : Room} {M : Mem} {pc : Nat} {lo : List (Option Value)} {st : List Value}
end KXL
