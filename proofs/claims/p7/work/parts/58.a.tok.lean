/-! tokens of a text, by its bytes -/
def ck (c : Int) : Int := if c < 0 then 0 else if 97 ≤ c ∧ c ≤ 122 then 1 else if 48 ≤ c ∧ c ≤ 57 then 2 else if c = 59 then 3 else if c = 10 ∨ c = 32 then 5 else 4
theorem ck_c (c : Int) : (c < 0 ∧ ck c = 0) ∨ (97 ≤ c ∧ c ≤ 122 ∧ ck c = 1) ∨ (48 ≤ c ∧ c ≤ 57 ∧ ck c = 2) ∨ (c = 59 ∧ ck c = 3) ∨ ((c = 10 ∨ c = 32) ∧ ck c = 5) ∨ (0 ≤ c ∧ (c < 48 ∨ 57 < c) ∧ (c < 97 ∨ 122 < c) ∧ c ≠ 59 ∧ c ≠ 10 ∧ c ≠ 32 ∧ ck c = 4) := by
  unfold ck
  by_cases h1 : c < 0
  · left; exact ⟨h1, if_pos h1⟩
  · rw [if_neg h1]
    by_cases h2 : 97 ≤ c ∧ c ≤ 122
    · right; left; exact ⟨h2.1, h2.2, if_pos h2⟩
    · rw [if_neg h2]
      by_cases h3 : 48 ≤ c ∧ c ≤ 57
      · right; right; left; exact ⟨h3.1, h3.2, if_pos h3⟩
      · rw [if_neg h3]
        by_cases h4 : c = 59
        · right; right; right; left; exact ⟨h4, if_pos h4⟩
        · rw [if_neg h4]
          by_cases h5 : c = 10 ∨ c = 32
          · right; right; right; right; left; exact ⟨h5, if_pos h5⟩
          · rw [if_neg h5]
            right; right; right; right; right
            exact ⟨by omega, by omega, by omega, h4, by omega, by omega, rfl⟩
def TX (B : Int → Int) (n : Int) : Prop := ∀ i, (0 ≤ i ∧ i < n ∧ 0 ≤ B i ∧ B i ≤ 255) ∨ ((i < 0 ∨ n ≤ i) ∧ B i = -1)
theorem TX.far {B : Int → Int} {n i : Int} (h : TX B n) (hi : n ≤ i) : ck (B i) = 0 := by
  rcases h i with q | q
  · omega
  · rw [q.2]; decide
theorem TX.in {B : Int → Int} {n i : Int} (h : TX B n) (hi : ck (B i) ≠ 0) : 0 ≤ i ∧ i < n := by
  rcases h i with q | q
  · exact ⟨q.1, q.2.1⟩
  · exact absurd (by rw [q.2]; decide) hi
def Sk (B : Int → Int) (e p : Int) : Prop := e ≤ p ∧ (∀ i, e ≤ i → i < p → ck (B i) = 5) ∧ ck (B p) ≠ 5
theorem Sk.u {B : Int → Int} {e p q : Int} (h : Sk B e p) (h' : Sk B e q) : p = q := by
  rcases Int.lt_trichotomy p q with a | a | a
  · exact absurd (h'.2.1 p h.1 a) h.2.2
  · exact a
  · exact absurd (h.2.1 q h'.1 a) h'.2.2
theorem Sk.ex {B : Int → Int} {n : Int} (hT : TX B n) (e : Int) : ∃ p, Sk B e p := by
  have go : ∀ (k : Nat) (e : Int), (n - e).toNat ≤ k → ∃ p, Sk B e p := by
    intro k
    induction k with
    | zero =>
      intro e h
      have h0 := hT.far (i := e) (by omega)
      exact ⟨e, Int.le_refl _, fun i a b => by omega, by rw [h0]; decide⟩
    | succ k ih =>
      intro e h
      by_cases c : ck (B e) = 5
      · have h0 := hT.in (i := e) (by rw [c]; decide)
        obtain ⟨p, h1, h2, h3⟩ := ih (e + 1) (by omega)
        refine ⟨p, by omega, fun i a b => ?_, h3⟩
        by_cases q : i = e
        · rw [q]; exact c
        · exact h2 i (by omega) b
      · exact ⟨e, Int.le_refl _, fun i a b => by omega, c⟩
  exact go _ e (Nat.le_refl _)
def En (B : Int → Int) (p q : Int) : Prop := (ck (B p) = 0 ∧ q = p) ∨ (3 ≤ ck (B p) ∧ q = p + 1) ∨ ((ck (B p) = 1 ∨ ck (B p) = 2) ∧ p < q ∧ (∀ i, p ≤ i → i < q → ck (B i) = ck (B p)) ∧ ck (B q) ≠ ck (B p))
theorem En.u {B : Int → Int} {p q q' : Int} (h : En B p q) (h' : En B p q') : q = q' := by
  rcases h with ⟨a, b⟩ | ⟨a, b⟩ | ⟨a, b, c, d⟩
  · rcases h' with ⟨a', b'⟩ | ⟨a', b'⟩ | ⟨a', b', c', d'⟩ <;> omega
  · rcases h' with ⟨a', b'⟩ | ⟨a', b'⟩ | ⟨a', b', c', d'⟩ <;> omega
  · rcases h' with ⟨a', b'⟩ | ⟨a', b'⟩ | ⟨a', b', c', d'⟩
    · omega
    · omega
    · rcases Int.lt_trichotomy q q' with z | z | z
      · exact absurd (c' q (by omega) z) d
      · exact z
      · exact absurd (c q' (by omega) z) d'
theorem En.ex {B : Int → Int} {n : Int} (hT : TX B n) (p : Int) : ∃ q, En B p q := by
  have hc := ck_c (B p)
  by_cases h0 : ck (B p) = 0
  · exact ⟨p, Or.inl ⟨h0, rfl⟩⟩
  by_cases h3 : 3 ≤ ck (B p)
  · exact ⟨p + 1, Or.inr (Or.inl ⟨h3, rfl⟩)⟩
  have h12 : ck (B p) = 1 ∨ ck (B p) = 2 := by omega
  have go : ∀ (k : Nat) (e : Int), p < e → (∀ i, p ≤ i → i < e → ck (B i) = ck (B p)) → (n - e).toNat ≤ k → ∃ q, En B p q := by
    intro k
    induction k with
    | zero =>
      intro e hpe ha h
      have hf := hT.far (i := e) (by omega)
      exact ⟨e, Or.inr (Or.inr ⟨h12, hpe, ha, by omega⟩)⟩
    | succ k ih =>
      intro e hpe ha h
      by_cases c : ck (B e) = ck (B p)
      · have h1 := hT.in (i := e) (by omega)
        refine ih (e + 1) (by omega) (fun i a b => ?_) (by omega)
        by_cases q : i = e
        · rw [q]; exact c
        · exact ha i a (by omega)
      · exact ⟨e, Or.inr (Or.inr ⟨h12, hpe, ha, c⟩)⟩
  exact go _ (p + 1) (by omega) (fun i a b => by rw [show i = p by omega]) (Nat.le_refl _)
noncomputable def np (B : Int → Int) (e : Int) : Int := Classical.epsilon (Sk B e)
noncomputable def en (B : Int → Int) (p : Int) : Int := Classical.epsilon (En B p)
theorem np_s {B : Int → Int} {n : Int} (hT : TX B n) (e : Int) : Sk B e (np B e) := Classical.epsilon_spec (Sk.ex hT e)
theorem en_s {B : Int → Int} {n : Int} (hT : TX B n) (p : Int) : En B p (en B p) := Classical.epsilon_spec (En.ex hT p)
theorem Sk.le {B : Int → Int} {n e p : Int} (hT : TX B n) (h : Sk B e p) (he : e ≤ n) : p ≤ n := by
  by_cases q : p ≤ n
  · exact q
  · have h1 := h.2.1 n he (by omega)
    have h2 := hT.far (i := n) (Int.le_refl _)
    omega
theorem En.le {B : Int → Int} {n p q : Int} (hT : TX B n) (h : En B p q) (hp : p ≤ n) : p ≤ q ∧ q ≤ n := by
  rcases h with ⟨a, b⟩ | ⟨a, b⟩ | ⟨a, b, c, d⟩
  · omega
  · have := hT.in (i := p) (by omega)
    omega
  · refine ⟨by omega, ?_⟩
    by_cases z : q ≤ n
    · exact z
    · have h1 := c n hp (by omega)
      have h2 := hT.far (i := n) (Int.le_refl _)
      omega
noncomputable def tqN (B : Int → Int) : Nat → Int
  | 0 => 0
  | k + 1 => en B (np B (tqN B k))
/-- where the token of number j begins and ends -/
noncomputable def tp (B : Int → Int) (j : Int) : Int := np B (tqN B j.toNat)
noncomputable def tq (B : Int → Int) (j : Int) : Int := tqN B (j + 1).toNat
noncomputable def tk (B : Int → Int) (j : Int) : Int := ck (B (tp B j))
theorem tp_s {B : Int → Int} {n : Int} (hT : TX B n) {i j : Int} (h : 0 ≤ j) (hi : i = j - 1) : Sk B (tq B i) (tp B j) := by
  subst hi
  unfold tq tp
  rw [show (j - 1 + 1).toNat = j.toNat by omega]
  exact np_s hT _
theorem tq_s {B : Int → Int} {n : Int} (hT : TX B n) {j : Int} (h : 0 ≤ j) : En B (tp B j) (tq B j) := by
  unfold tq tp
  rw [show (j + 1).toNat = j.toNat + 1 by omega]
  exact en_s hT _
theorem tqN_le {B : Int → Int} {n : Int} (hT : TX B n) (hn : 0 ≤ n) : ∀ k, 0 ≤ tqN B k ∧ tqN B k ≤ n
  | 0 => ⟨Int.le_refl _, hn⟩
  | k + 1 => by
    have h := tqN_le hT hn k
    have h1 := np_s hT (tqN B k)
    have h2 := h1.le hT h.2
    have h3 := (en_s hT (np B (tqN B k))).le hT h2
    have h4 := h1.1
    show 0 ≤ en B (np B (tqN B k)) ∧ en B (np B (tqN B k)) ≤ n
    omega
theorem tp_le {B : Int → Int} {n : Int} (hT : TX B n) (hn : 0 ≤ n) {j : Int} (h : 0 ≤ j) : 0 ≤ tp B j ∧ tp B j ≤ tq B j ∧ tq B j ≤ n := by
  have h0 := tqN_le hT hn j.toNat
  have h1 := np_s hT (tqN B j.toNat)
  have h2 := h1.le hT h0.2
  have h3 := (tq_s hT h).le hT h2
  have h4 := h1.1
  have e : tp B j = np B (tqN B j.toNat) := rfl
  omega
/-- the number that some digits tell -/
def dvl (B : Int → Int) (p : Int) : Nat → Int
  | 0 => 0
  | k + 1 => 10 * dvl B p k + B (p + k) - 48
noncomputable def tv (B : Int → Int) (j : Int) : Int := dvl B (tp B j) (tq B j - tp B j).toNat
/-- a token that is none, or a number of too many digits -/
noncomputable def tbd (B : Int → Int) (j : Int) : Int := if tk B j = 4 ∨ (tk B j = 2 ∧ 5 ≤ tq B j - tp B j) then 1 else 0
theorem tbd_c (B : Int → Int) (j : Int) : (tbd B j = 1 ∧ tk B j = 4) ∨ (tbd B j = 1 ∧ tk B j = 2 ∧ 5 ≤ tq B j - tp B j) ∨ (tbd B j = 0 ∧ tk B j ≠ 4 ∧ tk B j ≠ 2) ∨ (tbd B j = 0 ∧ tk B j = 2 ∧ tq B j - tp B j ≤ 4) := by
  unfold tbd
  by_cases h4 : tk B j = 4
  · left; exact ⟨if_pos (Or.inl h4), h4⟩
  · by_cases h2 : tk B j = 2
    · by_cases h5 : 5 ≤ tq B j - tp B j
      · right; left; exact ⟨if_pos (Or.inr ⟨h2, h5⟩), h2, h5⟩
      · right; right; right
        exact ⟨if_neg (fun q => by rcases q with a | a; exact h4 a; exact h5 a.2), h2, by omega⟩
    · right; right; left
      exact ⟨if_neg (fun q => by rcases q with a | a; exact h4 a; exact h2 a.1), h4, h2⟩
def TB (M : Mem) (c : Int) (B : Int → Int) : Prop := ∀ i, (0 ≤ i ∧ i < M c 5 ∧ ((0 ≤ M (M c 4) i ∧ B i = M (M c 4) i) ∨ (M (M c 4) i < 0 ∧ B i = M (M c 4) i + 256))) ∨ ((i < 0 ∨ M c 5 ≤ i) ∧ B i = -1)
theorem TB.fr {L : List (Nat × Int)} {M N : Mem} {c : Int} {B : Int → Int} (h : TB M c B) (hI : Inv false M) (hk : kd c = 17) (hF : Fr L M N) (hL : (!(fin L 17 4) && !(fin L 17 5) && L.all (fun p => !(p.1 == 18))) = true) : TB N c B := fun i => by
  simp only [Bool.and_eq_true, Bool.not_eq_true'] at hL
  have e4 := hF.e hk 4 hL.1.1
  have e5 := hF.e hk 5 hL.1.2
  have e6 := hF.fn (Inv.r hI hk rfl 4 rfl rfl) hL.2
  rw [e4, e5, e6]
  exact h i
theorem tq_end {n j : Int} {B : Int → Int} (hT : TX B n) (hj : 0 ≤ j) : (tk B j = 0 ∧ tq B j = tp B j) ∨ (3 ≤ tk B j ∧ tq B j = tp B j + 1) ∨ ((tk B j = 1 ∨ tk B j = 2) ∧ tp B j < tq B j) := by
  rcases tq_s hT hj with q | q | q
  · exact Or.inl q
  · exact Or.inr (Or.inl q)
  · exact Or.inr (Or.inr ⟨q.1, q.2.1⟩)
/-- the value of the first digits -/
def DV (N : Mem) (c : Int) (B : Int → Int) (j i : Int) : Prop := N c 9 = dvl B (tp B j) i.toNat
theorem dvl_b {B : Int → Int} {p : Int} : ∀ (k : Nat), (∀ i, p ≤ i → i < p + k → ck (B i) = 2) → 0 ≤ dvl B p k ∧ dvl B p k < 10 ^ k
  | 0, _ => by show 0 ≤ (0 : Int) ∧ (0 : Int) < 1; decide
  | k + 1, h => by
    have h1 := dvl_b k (fun i a b => h i a (by omega))
    have h2 := h (p + k) (by omega) (by omega)
    have h3 := ck_c (B (p + k))
    show 0 ≤ 10 * dvl B p k + B (p + k) - 48 ∧ 10 * dvl B p k + B (p + k) - 48 < 10 ^ (k + 1)
    rw [Int.pow_succ]
    omega
theorem tk_in {n j : Int} {B : Int → Int} (hT : TX B n) (hj : 0 ≤ j) (hk : tk B j = 1 ∨ tk B j = 2) : ∀ i, tp B j ≤ i → i < tq B j → ck (B i) = tk B j := by
  rcases tq_s hT hj with q | q | q
  · intro i a b; omega
  · intro i a b
    have e : ck (B (tp B j)) = tk B j := rfl
    omega
  · exact q.2.2.1
theorem DV.b {N : Mem} {c j x n : Int} {B : Int → Int} (h : DV N c B j x) (hT : TX B n) (hj : 0 ≤ j) (hk : tk B j = 2) (hx : 0 ≤ x ∧ x ≤ 4) (hs : tp B j + x ≤ tq B j) : 0 ≤ N c 9 ∧ (x ≤ 3 → N c 9 ≤ 999) ∧ N c 9 ≤ 9999 := by
  unfold DV at h
  have hd := dvl_b (B := B) (p := tp B j) x.toNat (fun i a b => by rw [tk_in hT hj (Or.inr hk) i a (by omega)]; exact hk)
  rw [← h] at hd
  have hx2 : x = 0 ∨ x = 1 ∨ x = 2 ∨ x = 3 ∨ x = 4 := by omega
  rcases hx2 with e | e | e | e | e <;> subst e
  · rw [show (10 : Int) ^ (0 : Int).toNat = 1 from rfl] at hd; omega
  · rw [show (10 : Int) ^ (1 : Int).toNat = 10 from rfl] at hd; omega
  · rw [show (10 : Int) ^ (2 : Int).toNat = 100 from rfl] at hd; omega
  · rw [show (10 : Int) ^ (3 : Int).toNat = 1000 from rfl] at hd; omega
  · rw [show (10 : Int) ^ (4 : Int).toNat = 10000 from rfl] at hd; omega
def TM (M : Mem) (B : Int → Int) : Prop := ∀ i, (0 ≤ i ∧ i < M 163 11 ∧ ((0 ≤ M 170 i ∧ B i = M 170 i) ∨ (M 170 i < 0 ∧ B i = M 170 i + 256))) ∨ ((i < 0 ∨ M 163 11 ≤ i) ∧ B i = -1)
theorem TM.fr {L : List (Nat × Int)} {M N : Mem} {B : Int → Int} (h : TM M B) (hF : Fr L M N) (hL : (!(fin L 64 11) && L.all (fun p => !(p.1 == 71))) = true) : TM N B := fun i => by
  simp only [Bool.and_eq_true, Bool.not_eq_true'] at hL
  rw [hF.e kd_163 11 hL.1, hF.fn kd_170 hL.2]
  exact h i
def RM (N : Mem) (B : Int → Int) (j : Int) : Prop := ∀ i, tp B j ≤ i → i < N 163 14 → ck (B i) = tk B j
def DM (N : Mem) (B : Int → Int) (j : Int) : Prop := N 163 14 - tp B j ≤ 4 → N 163 15 = dvl B (tp B j) (N 163 14 - tp B j).toNat
theorem DM.b {N : Mem} {j n : Int} {B : Int → Int} (h : DM N B j) (hR : RM N B j) (h0 : tp B j ≤ N 163 14) (hk : tk B j = 2) : (N 163 14 - tp B j ≤ 3 → 0 ≤ N 163 15 ∧ N 163 15 ≤ 999) ∧ (N 163 14 - tp B j ≤ 4 → 0 ≤ N 163 15 ∧ N 163 15 ≤ 9999) := by
  have hd : N 163 14 - tp B j ≤ 4 → 0 ≤ N 163 15 ∧ N 163 15 < 10 ^ (N 163 14 - tp B j).toNat := fun hl => by
    have := dvl_b (B := B) (p := tp B j) (N 163 14 - tp B j).toNat (fun i a b => by rw [hR i a (by omega)]; exact hk)
    rw [← h hl] at this
    exact this
  obtain ⟨x, hx⟩ : ∃ x, N 163 14 - tp B j = x := ⟨_, rfl⟩
  rw [hx] at hd ⊢
  by_cases hl : x ≤ 4
  · have hd2 := hd hl
    have hx2 : x = 0 ∨ x = 1 ∨ x = 2 ∨ x = 3 ∨ x = 4 := by omega
    rcases hx2 with e | e | e | e | e <;> subst e
    · rw [show (10 : Int) ^ (0 : Int).toNat = 1 from rfl] at hd2; omega
    · rw [show (10 : Int) ^ (1 : Int).toNat = 10 from rfl] at hd2; omega
    · rw [show (10 : Int) ^ (2 : Int).toNat = 100 from rfl] at hd2; omega
    · rw [show (10 : Int) ^ (3 : Int).toNat = 1000 from rfl] at hd2; omega
    · rw [show (10 : Int) ^ (4 : Int).toNat = 10000 from rfl] at hd2; omega
  · omega
/-- the reference stands at a token -/
def RT (N : Mem) (B : Int → Int) (j : Int) : Prop := N 163 13 = tp B j ∧ N 163 14 = tq B j ∧ ((N 163 12 = 0 ∧ tk B j = 0 ∧ tbd B j = 0) ∨ (N 163 12 = 1 ∧ tbd B j = 1 ∧ tk B j ≠ 0 ∧ tk B j ≠ 1 ∧ tk B j ≠ 3) ∨ (N 163 12 = 2 ∧ tk B j = 1 ∧ tbd B j = 0) ∨ (N 163 12 = 3 ∧ tk B j = 2 ∧ tbd B j = 0 ∧ N 163 15 = tv B j ∧ 0 ≤ N 163 15 ∧ N 163 15 ≤ 9999) ∨ (N 163 12 = 4 ∧ tk B j = 3 ∧ tbd B j = 0 ∧ N 163 15 = 59))
theorem RT.u {N : Mem} {B : Int → Int} {j : Int} (h : RT N B j) : N 163 13 = tp B j ∧ N 163 14 = tq B j ∧ ((N 163 12 = 0 ∧ tk B j = 0 ∧ tbd B j = 0) ∨ (N 163 12 = 1 ∧ tbd B j = 1 ∧ tk B j ≠ 0 ∧ tk B j ≠ 1 ∧ tk B j ≠ 3) ∨ (N 163 12 = 2 ∧ tk B j = 1 ∧ tbd B j = 0) ∨ (N 163 12 = 3 ∧ tk B j = 2 ∧ tbd B j = 0 ∧ N 163 15 = tv B j ∧ 0 ≤ N 163 15 ∧ N 163 15 ≤ 9999) ∨ (N 163 12 = 4 ∧ tk B j = 3 ∧ tbd B j = 0 ∧ N 163 15 = 59)) := h
theorem RT.fr {L : List (Nat × Int)} {M N : Mem} {B : Int → Int} {j : Int} (h : RT M B j) (hF : Fr L M N) (hL : (!(fin L 64 12) && !(fin L 64 13) && !(fin L 64 14) && !(fin L 64 15)) = true) : RT N B j := by
  simp only [Bool.and_eq_true, Bool.not_eq_true'] at hL
  have e1 := hF.e kd_163 12 hL.1.1.1
  have e2 := hF.e kd_163 13 hL.1.1.2
  have e3 := hF.e kd_163 14 hL.1.2
  have e4 := hF.e kd_163 15 hL.2
  unfold RT at h ⊢
  rw [e1, e2, e3, e4]
  exact h
