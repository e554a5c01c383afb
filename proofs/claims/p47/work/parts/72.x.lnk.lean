/-! what rules come to, by letter: the reference's way and the class's -/
def sbt (s : Int) : Nat := if s = -1 then 3 else s.toNat
theorem rbit_tb {s : Int} (h : -1 ≤ s ∧ s ≤ 2) (i : Nat) : (0 ≤ rbit s ∧ rbit s < 16) ∧ (tb (rbit s) i = true ↔ i = sbt s) := by
  unfold rbit sbt
  by_cases e : s = -1
  · rw [if_pos e, if_pos e]
    have e8 : (8 : Int) = zshl 1 ((3 : Nat) : Int) := by decide +kernel
    refine ⟨by decide, ?_⟩
    rw [e8, tb_1 (by decide), decide_eq_true_eq]
    exact ⟨fun h => h.symm, fun h => h.symm⟩
  · rw [if_neg e, if_neg e]
    have hs : ((s.toNat : Nat) : Int) = s := by omega
    have hn : s.toNat < 3 := by omega
    have t := tb_1 (n := s.toNat) (by omega) i
    have z := zshl_c (a := 1) s.toNat (by omega) ⟨by omega, by
      have hp : (2 ^ s.toNat : Nat) ≤ 2 ^ 2 := Nat.pow_le_pow_right (by omega) (by omega)
      omega⟩
    have hp : (2 ^ s.toNat : Nat) ≤ 2 ^ 2 := Nat.pow_le_pow_right (by omega) (by omega)
    have h0 : 0 < (2 ^ s.toNat : Nat) := Nat.two_pow_pos _
    rw [hs] at t z
    refine ⟨by rw [z]; omega, ?_⟩
    rw [t, decide_eq_true_eq]
    exact ⟨fun h => h.symm, fun h => h.symm⟩
theorem zor_16 {a b : Int} (ha : 0 ≤ a ∧ a < 16) (hb : 0 ≤ b ∧ b < 16) : 0 ≤ zor a b ∧ zor a b < 16 := zor_lt 4 (by decide) ha hb
def zAX (A : Int → Int) : Prop := AR A ∧ ∀ a k, 0 ≤ a → a ≤ 1 → 0 ≤ k → k ≤ 19 → -1 ≤ A (108 + 85 * a + 4 * k) ∧ A (108 + 85 * a + 4 * k) ≤ 2
theorem zAX_of {M : Mem} (hI : Inv true M) : zAX (M 164) := ⟨AR_of hI, fun a k h0 h1 h2 h3 => by
  have f := at_r (108 + 85 * a + 4 * k) 0 a k 3 (by omega) (by omega) (by omega) (by decide)
  exact Inv.g hI kd_164 rfl _ (a := -1) (b := 2) f.1 f.2⟩
/-- the bits of what is laid of one automaton's rules -/
theorem lay1_tb {A f : Int → Int} {a i : Int} (hA : zAX A) (ha : 0 ≤ a ∧ a ≤ 1) (hf : 0 ≤ f i ∧ f i < 16) : ∀ n : Nat, (n : Int) ≤ 20 → (0 ≤ lay1 A a f n i ∧ lay1 A a f n i < 16) ∧ ∀ j : Nat, tb (lay1 A a f n i) j = true ↔ (tb (f i) j = true ∨ ∃ k : Int, 0 ≤ k ∧ k < n ∧ rpl A a k = i ∧ sbt (A (108 + 85 * a + 4 * k)) = j)
  | 0, _ => ⟨hf, fun j => ⟨fun h => Or.inl h, fun h => by
      rcases h with h | ⟨k, h0, h1, _⟩
      · exact h
      · omega⟩⟩
  | n + 1, hn => by
    obtain ⟨r, t⟩ := lay1_tb hA ha hf n (by omega)
    have c := hA.2 a (n : Int) ha.1 ha.2 (by omega) (by omega)
    have e : lay1 A a f (n + 1) i = if i = rpl A a n then zor (lay1 A a f n i) (rbit (A (108 + 85 * a + 4 * (n : Int)))) else lay1 A a f n i := rfl
    by_cases z : i = rpl A a n
    · rw [e, if_pos z]
      have b := fun j => rbit_tb c j
      refine ⟨zor_16 r (b 0).1, fun j => ?_⟩
      rw [tb_zor ⟨r.1, by omega⟩ ⟨(b 0).1.1, by have := (b 0).1.2; omega⟩, Bool.or_eq_true, t j, (b j).2]
      constructor
      · rintro ((h | ⟨k, h0, h1, h2, h3⟩) | h)
        · exact Or.inl h
        · exact Or.inr ⟨k, h0, by omega, h2, h3⟩
        · exact Or.inr ⟨(n : Int), by omega, by omega, z.symm, h.symm⟩
      · rintro (h | ⟨k, h0, h1, h2, h3⟩)
        · exact Or.inl (Or.inl h)
        · by_cases y : k = (n : Int)
          · subst y; exact Or.inr h3.symm
          · exact Or.inl (Or.inr ⟨k, h0, by omega, h2, h3⟩)
    · rw [e, if_neg z]
      refine ⟨r, fun j => ?_⟩
      rw [t j]
      constructor
      · rintro (h | ⟨k, h0, h1, h2⟩)
        · exact Or.inl h
        · exact Or.inr ⟨k, h0, by omega, h2⟩
      · rintro (h | ⟨k, h0, h1, h2, h3⟩)
        · exact Or.inl h
        · by_cases y : k = (n : Int)
          · subst y; exact absurd h2.symm z
          · exact Or.inr ⟨k, h0, by omega, h2, h3⟩
/-- rules of the other automaton lie elsewhere -/
theorem lay1_sk {A f : Int → Int} {a i : Int} (hA : AR A) (ha : 0 ≤ a ∧ a ≤ 1) (hi : i < 54 * a ∨ 54 * a + 54 ≤ i) : ∀ n : Nat, (n : Int) ≤ 20 → lay1 A a f n i = f i
  | 0, _ => rfl
  | n + 1, hn => by
    have ih := lay1_sk (f := f) hA ha hi n (by omega)
    have e : lay1 A a f (n + 1) i = if i = rpl A a n then zor (lay1 A a f n i) (rbit (A (108 + 85 * a + 4 * (n : Int)))) else lay1 A a f n i := rfl
    have c := hA a n ha.1 ha.2 (by omega) (by omega)
    rw [e, if_neg (fun z => by unfold rpl at z; omega), ih]
theorem laid_tb {A : Int → Int} {a i : Int} (hA : zAX A) (h3 : 0 ≤ a ∧ a < A 3 ∧ A 3 ≤ 2) (hn : ∀ b, 0 ≤ b → b ≤ 1 → 0 ≤ A (104 + 85 * b) ∧ A (104 + 85 * b) ≤ 20) (hi : 54 * a ≤ i ∧ i < 54 * a + 54) : (0 ≤ laid A i ∧ laid A i < 16) ∧ ∀ j : Nat, tb (laid A i) j = true ↔ ∃ k : Int, 0 ≤ k ∧ k < A (104 + 85 * a) ∧ rpl A a k = i ∧ sbt (A (108 + 85 * a + 4 * k)) = j := by
  have n0 := hn 0 (by decide) (by decide)
  have n1 := hn 1 (by decide) (by decide)
  have z0 : (0 : Int) ≤ 0 ∧ (0 : Int) < 16 := by decide
  have key : ∀ (f : Int → Int) (m : Nat), f i = 0 → (m : Int) = A (104 + 85 * a) → laid A i = lay1 A a f m i → (0 ≤ laid A i ∧ laid A i < 16) ∧ ∀ j : Nat, tb (laid A i) j = true ↔ ∃ k : Int, 0 ≤ k ∧ k < A (104 + 85 * a) ∧ rpl A a k = i ∧ sbt (A (108 + 85 * a + 4 * k)) = j := fun f m f0 hm he => by
    have w := hn a h3.1 (by omega)
    obtain ⟨r, t⟩ := lay1_tb (f := f) (i := i) hA ⟨h3.1, by omega⟩ (by rw [f0]; exact z0) m (by omega)
    rw [he]
    refine ⟨r, fun j => ?_⟩
    rw [t j, f0, tb_0]
    constructor
    · rintro (h | ⟨k, h0, h1, h2⟩)
      · cases h
      · exact ⟨k, h0, by omega, h2⟩
    · rintro ⟨k, h0, h1, h2⟩
      exact Or.inr ⟨k, h0, by omega, h2⟩
  rcases (by omega : (a = 0 ∧ A 3 = 1) ∨ (a = 0 ∧ A 3 = 2) ∨ (a = 1 ∧ A 3 = 2)) with ⟨e, e3⟩ | ⟨e, e3⟩ | ⟨e, e3⟩ <;> subst e
  · refine key (fun _ => 0) (A (104 + 85 * 0)).toNat rfl (by omega) ?_
    unfold laid; rw [e3]; rfl
  · refine key (fun _ => 0) (A (104 + 85 * 0)).toNat rfl (by omega) ?_
    unfold laid; rw [e3]
    show lay1 A ((1 : Nat) : Int) (layA A 1) (A (104 + 85 * ((1 : Nat) : Int))).toNat i = _
    rw [lay1_sk hA.1 ⟨by decide, by decide⟩ (Or.inl (by omega)) _ (by have : A (104 + 85 * ((1 : Nat) : Int)) = A (104 + 85 * 1) := rfl; omega)]
    rfl
  · refine key (layA A 1) (A (104 + 85 * 1)).toNat ?_ (by omega) ?_
    · show lay1 A ((0 : Nat) : Int) (fun _ => 0) (A (104 + 85 * ((0 : Nat) : Int))).toNat i = 0
      rw [lay1_sk hA.1 ⟨by decide, by decide⟩ (Or.inr (by omega)) _ (by have : A (104 + 85 * ((0 : Nat) : Int)) = A (104 + 85 * 0) := rfl; omega)]
    · unfold laid; rw [e3]; rfl
/-! the class's rows, bit by bit -/
theorem zpr_bits {F T : Int → Int} {k : Int} (hF : 0 ≤ F k ∧ F k ≤ 2) (hT : 0 ≤ T k ∧ T k ≤ 2) : sm9 (zpr F T k) ∧ ∀ p r : Nat, p < 3 → r < 3 → (RR (zpr F T k) p r ↔ F k = p ∧ T k = r) := by
  have e : zpr F T k = zshl 1 (((3 * F k + T k).toNat : Nat) : Int) := by
    unfold zpr; rw [show (((3 * F k + T k).toNat : Nat) : Int) = 3 * F k + T k by omega]
  rw [e]
  refine ⟨sm9_1 (by omega), fun p r hp hr => ?_⟩
  unfold RR
  rw [tb_1 (by omega), decide_eq_true_eq]
  constructor
  · intro h; omega
  · intro h; omega
theorem zk_all {L F T S : Int → Int} {l g : Int} : ∀ n : Nat, (∀ k : Int, 0 ≤ k → k < n → (0 ≤ F k ∧ F k ≤ 2) ∧ 0 ≤ T k ∧ T k ≤ 2) → sm9 (zkF L F T S l g n) ∧ ∀ p r : Nat, p < 3 → r < 3 → (RR (zkF L F T S l g n) p r ↔ ∃ k : Int, 0 ≤ k ∧ k < n ∧ L k = l ∧ S k = g ∧ F k = p ∧ T k = r)
  | 0, _ => ⟨(⟨by decide, by decide⟩ : sm9 0), fun p r _ _ => ⟨(fun h => by
      have h2 : tb 0 (3 * p + r) = true := h
      rw [tb_0] at h2
      cases h2), fun ⟨k, h0, h1, _⟩ => absurd h1 (by omega)⟩⟩
  | n + 1, h => by
    obtain ⟨s, t⟩ := zk_all (L := L) (S := S) (l := l) (g := g) n (fun k a b => h k a (by omega))
    have c := h (n : Int) (by omega) (by omega)
    obtain ⟨ps, pt⟩ := zpr_bits (F := F) (T := T) c.1 c.2
    have e : zkF L F T S l g (n + 1) = if L (n : Int) = l ∧ S (n : Int) = g then zor (zkF L F T S l g n) (zpr F T (n : Int)) else zkF L F T S l g n := rfl
    by_cases z : L (n : Int) = l ∧ S (n : Int) = g
    · rw [e, if_pos z]
      refine ⟨s.zor ps, fun p r hp hr => ?_⟩
      rw [RR_zor s ps, t p r hp hr, pt p r hp hr]
      constructor
      · rintro (⟨k, h0, h1, h2⟩ | h1)
        · exact ⟨k, h0, by omega, h2⟩
        · exact ⟨(n : Int), by omega, by omega, z.1, z.2, h1.1, h1.2⟩
      · rintro ⟨k, h0, h1, h2, h3, h4, h5⟩
        by_cases y : k = (n : Int)
        · subst y; exact Or.inr ⟨h4, h5⟩
        · exact Or.inl ⟨k, h0, by omega, h2, h3, h4, h5⟩
    · rw [e, if_neg z]
      refine ⟨s, fun p r hp hr => ?_⟩
      rw [t p r hp hr]
      constructor
      · rintro ⟨k, h0, h1, h2⟩; exact ⟨k, h0, by omega, h2⟩
      · rintro ⟨k, h0, h1, h2, h3, h4⟩
        by_cases y : k = (n : Int)
        · subst y; exact absurd ⟨h2, h3⟩ z
        · exact ⟨k, h0, by omega, h2, h3, h4⟩
theorem zs_all {L F T S : Int → Int} {c l : Int} : ∀ n : Nat, (∀ k : Int, 0 ≤ k → k < n → (0 ≤ F k ∧ F k ≤ 2) ∧ 0 ≤ T k ∧ T k ≤ 2) → sm9 (zsF L F T S c l n) ∧ ∀ p r : Nat, p < 3 → r < 3 → (RR (zsF L F T S c l n) p r ↔ ∃ k : Int, 0 ≤ k ∧ k < n ∧ L k = l ∧ (S k = -1 ∨ l < c) ∧ F k = p ∧ T k = r)
  | 0, _ => ⟨(⟨by decide, by decide⟩ : sm9 0), fun p r _ _ => ⟨(fun h => by
      have h2 : tb 0 (3 * p + r) = true := h
      rw [tb_0] at h2
      cases h2), fun ⟨k, h0, h1, _⟩ => absurd h1 (by omega)⟩⟩
  | n + 1, h => by
    obtain ⟨s, t⟩ := zs_all (L := L) (S := S) (c := c) (l := l) n (fun k a b => h k a (by omega))
    have c' := h (n : Int) (by omega) (by omega)
    obtain ⟨ps, pt⟩ := zpr_bits (F := F) (T := T) c'.1 c'.2
    have e : zsF L F T S c l (n + 1) = if L (n : Int) = l ∧ (S (n : Int) = -1 ∨ l < c) then zor (zsF L F T S c l n) (zpr F T (n : Int)) else zsF L F T S c l n := rfl
    by_cases z : L (n : Int) = l ∧ (S (n : Int) = -1 ∨ l < c)
    · rw [e, if_pos z]
      refine ⟨s.zor ps, fun p r hp hr => ?_⟩
      rw [RR_zor s ps, t p r hp hr, pt p r hp hr]
      constructor
      · rintro (⟨k, h0, h1, h2⟩ | h1)
        · exact ⟨k, h0, by omega, h2⟩
        · exact ⟨(n : Int), by omega, by omega, z.1, z.2, h1.1, h1.2⟩
      · rintro ⟨k, h0, h1, h2, h3, h4, h5⟩
        by_cases y : k = (n : Int)
        · subst y; exact Or.inr ⟨h4, h5⟩
        · exact Or.inl ⟨k, h0, by omega, h2, h3, h4, h5⟩
    · rw [e, if_neg z]
      refine ⟨s, fun p r hp hr => ?_⟩
      rw [t p r hp hr]
      constructor
      · rintro ⟨k, h0, h1, h2⟩; exact ⟨k, h0, by omega, h2⟩
      · rintro ⟨k, h0, h1, h2, h3, h4⟩
        by_cases y : k = (n : Int)
        · subst y; exact absurd ⟨h2, h3⟩ z
        · exact ⟨k, h0, by omega, h2, h3, h4⟩
theorem z16_7 : ∀ v : Nat, v < 16 → (zand (v : Int) 7 = 0 ↔ tb (v : Int) 0 = false ∧ tb (v : Int) 1 = false ∧ tb (v : Int) 2 = false) := by decide +kernel
/-- the rules of one automaton in the one array, called by rows -/
def zRows (A : Int → Int) (a : Int) (L F T S : Int → Int) : Prop := ∀ k, 0 ≤ k → k < A (104 + 85 * a) → L k = A (105 + 85 * a + 4 * k) ∧ F k = A (106 + 85 * a + 4 * k) ∧ T k = A (107 + 85 * a + 4 * k) ∧ S k = A (108 + 85 * a + 4 * k)
theorem link_bits {A L F T S : Int → Int} {a l : Int} (hA : zAX A) (h3 : 0 ≤ a ∧ a < A 3 ∧ A 3 ≤ 2) (hn : ∀ b, 0 ≤ b → b ≤ 1 → 0 ≤ A (104 + 85 * b) ∧ A (104 + 85 * b) ≤ 20) (hR : zRows A a L F T S) (hl : 0 ≤ l ∧ l ≤ 5) {p r : Nat} (hp : p < 3) (hr : r < 3) : (0 ≤ laid A (54 * a + 9 * l + ((3 * p + r : Nat) : Int)) ∧ laid A (54 * a + 9 * l + ((3 * p + r : Nat) : Int)) < 16) ∧ ∀ j : Nat, tb (laid A (54 * a + 9 * l + ((3 * p + r : Nat) : Int))) j = true ↔ ∃ k : Int, 0 ≤ k ∧ k < A (104 + 85 * a) ∧ L k = l ∧ F k = p ∧ T k = r ∧ sbt (S k) = j := by
  obtain ⟨b, t⟩ := laid_tb (i := 54 * a + 9 * l + ((3 * p + r : Nat) : Int)) hA h3 hn (by omega)
  refine ⟨b, fun j => ?_⟩
  rw [t j]
  have w := hn a h3.1 (by omega)
  constructor
  · rintro ⟨k, h0, h1, h2, h4⟩
    obtain ⟨eL, eF, eT, eS⟩ := hR k h0 h1
    have c := hA.1 a k h3.1 (by omega) h0 (by omega)
    unfold rpl at h2
    have d := rpl_in (b := a) (l := l) (p := (p : Int)) (q := (r : Int)) (a := a) (L := A (105 + 85 * a + 4 * k)) (F := A (106 + 85 * a + 4 * k)) (T := A (107 + 85 * a + 4 * k)) (by omega) (by omega) (by omega)
    exact ⟨k, h0, h1, by omega, by omega, by omega, by rw [eS]; exact h4⟩
  · rintro ⟨k, h0, h1, h2, h4, h5, h6⟩
    obtain ⟨eL, eF, eT, eS⟩ := hR k h0 h1
    exact ⟨k, h0, h1, by unfold rpl; omega, by rw [← eS]; exact h6⟩
theorem link_rg {A L F T S : Int → Int} {a : Int} (hA : zAX A) (ha : 0 ≤ a ∧ a ≤ 1) (hn : ∀ b, 0 ≤ b → b ≤ 1 → 0 ≤ A (104 + 85 * b) ∧ A (104 + 85 * b) ≤ 20) (hR : zRows A a L F T S) : ∀ k : Int, 0 ≤ k → k < ((A (104 + 85 * a)).toNat : Nat) → (0 ≤ F k ∧ F k ≤ 2) ∧ 0 ≤ T k ∧ T k ≤ 2 := fun k h0 h1 => by
  have w := hn a ha.1 ha.2
  obtain ⟨eL, eF, eT, eS⟩ := hR k h0 (by omega)
  have c := hA.1 a k ha.1 ha.2 h0 (by omega)
  rw [eF, eT]; exact ⟨c.2.1, c.2.2.1⟩
theorem tb_of {v : Int} {j : Nat} (h : ¬ tb v j = false) : tb v j = true := by
  cases e : tb v j with
  | true => rfl
  | false => exact absurd e h
theorem link_k {A L F T S : Int → Int} {a l g : Int} (hA : zAX A) (h3 : 0 ≤ a ∧ a < A 3 ∧ A 3 ≤ 2) (hn : ∀ b, 0 ≤ b → b ≤ 1 → 0 ≤ A (104 + 85 * b) ∧ A (104 + 85 * b) ≤ 20) (hR : zRows A a L F T S) (hl : 0 ≤ l ∧ l ≤ 5) (hg : 0 ≤ g ∧ g ≤ 2) : leadZ (laid A) (54 * a + 9 * l) (zshl 1 g) 9 = zkF L F T S l g (A (104 + 85 * a)).toNat := by
  have w := hn a h3.1 (by omega)
  obtain ⟨s1, s2⟩ := zk_all (L := L) (S := S) (l := l) (g := g) (A (104 + 85 * a)).toNat (link_rg hA ⟨h3.1, by omega⟩ hn hR)
  refine RR_ext (sm9.lead _ _ _) s1 (fun p r hp hr => ?_)
  obtain ⟨b, t⟩ := link_bits hA h3 hn hR hl hp hr
  have e := tb_and (x := laid A (54 * a + 9 * l + ((3 * p + r : Nat) : Int))) ⟨b.1, by omega⟩ (n := g.toNat) (by omega)
  rw [show ((g.toNat : Nat) : Int) = g by omega] at e
  have sr : ∀ k, 0 ≤ k → k < A (104 + 85 * a) → -1 ≤ S k ∧ S k ≤ 2 := fun k h0 h1 => by
    rw [(hR k h0 h1).2.2.2]; exact hA.2 a k h3.1 (by omega) h0 (by omega)
  rw [RR_lead ⟨hp, hr⟩, s2 p r hp hr, e]
  constructor
  · intro h
    obtain ⟨k, h0, h1, h2, h4, h5, h6⟩ := (t g.toNat).mp (tb_of h)
    have q := sr k h0 h1
    refine ⟨k, h0, by omega, h2, ?_, h4, h5⟩
    unfold sbt at h6
    by_cases y : S k = -1
    · rw [if_pos y] at h6; omega
    · rw [if_neg y] at h6; omega
  · rintro ⟨k, h0, h1, h2, h4, h5, h6⟩ h
    have z := (t g.toNat).mpr ⟨k, h0, by omega, h2, h5, h6, by unfold sbt; rw [if_neg (by omega), h4]⟩
    rw [h] at z; cases z
theorem link_s {A L F T S : Int → Int} {a l c : Int} (hA : zAX A) (h3 : 0 ≤ a ∧ a < A 3 ∧ A 3 ≤ 2) (hn : ∀ b, 0 ≤ b → b ≤ 1 → 0 ≤ A (104 + 85 * b) ∧ A (104 + 85 * b) ≤ 20) (hR : zRows A a L F T S) (hl : 0 ≤ l ∧ l ≤ 5) (hc : ∀ k, 0 ≤ k → k < A (104 + 85 * a) → L k = l → l < c → 0 ≤ S k) : leadZ (laid A) (54 * a + 9 * l) (if l < c then 7 else 8) 9 = zsF L F T S c l (A (104 + 85 * a)).toNat := by
  have w := hn a h3.1 (by omega)
  obtain ⟨s1, s2⟩ := zs_all (L := L) (S := S) (c := c) (l := l) (A (104 + 85 * a)).toNat (link_rg hA ⟨h3.1, by omega⟩ hn hR)
  refine RR_ext (sm9.lead _ _ _) s1 (fun p r hp hr => ?_)
  obtain ⟨b, t⟩ := link_bits hA h3 hn hR hl hp hr
  have sr : ∀ k, 0 ≤ k → k < A (104 + 85 * a) → -1 ≤ S k ∧ S k ≤ 2 := fun k h0 h1 => by
    rw [(hR k h0 h1).2.2.2]; exact hA.2 a k h3.1 (by omega) h0 (by omega)
  rw [RR_lead ⟨hp, hr⟩, s2 p r hp hr]
  by_cases z : l < c
  · rw [if_pos z]
    have e := z16_7 (laid A (54 * a + 9 * l + ((3 * p + r : Nat) : Int))).toNat (by omega)
    rw [show (((laid A (54 * a + 9 * l + ((3 * p + r : Nat) : Int))).toNat : Nat) : Int) = laid A (54 * a + 9 * l + ((3 * p + r : Nat) : Int)) by omega] at e
    rw [e]
    constructor
    · intro h
      have g : ∃ j : Nat, j < 3 ∧ tb (laid A (54 * a + 9 * l + ((3 * p + r : Nat) : Int))) j = true := by
        by_cases h0 : tb (laid A (54 * a + 9 * l + ((3 * p + r : Nat) : Int))) 0 = false
        · by_cases h1 : tb (laid A (54 * a + 9 * l + ((3 * p + r : Nat) : Int))) 1 = false
          · by_cases h2 : tb (laid A (54 * a + 9 * l + ((3 * p + r : Nat) : Int))) 2 = false
            · exact absurd ⟨h0, h1, h2⟩ h
            · exact ⟨2, by decide, tb_of h2⟩
          · exact ⟨1, by decide, tb_of h1⟩
        · exact ⟨0, by decide, tb_of h0⟩
      obtain ⟨j, hj, hb⟩ := g
      obtain ⟨k, h0, h1, h2, h4, h5, h6⟩ := (t j).mp hb
      exact ⟨k, h0, by omega, h2, Or.inr z, h4, h5⟩
    · rintro ⟨k, h0, h1, h2, h4, h5, h6⟩ h
      have q := sr k h0 (by omega)
      have q2 := hc k h0 (by omega) h2 z
      have y := (t (S k).toNat).mpr ⟨k, h0, by omega, h2, h5, h6, by unfold sbt; rw [if_neg (by omega)]⟩
      rcases (by omega : (S k).toNat = 0 ∨ (S k).toNat = 1 ∨ (S k).toNat = 2) with e0 | e0 | e0 <;> rw [e0] at y
      · rw [h.1] at y; cases y
      · rw [h.2.1] at y; cases y
      · rw [h.2.2] at y; cases y
  · rw [if_neg z]
    have e := tb_and (x := laid A (54 * a + 9 * l + ((3 * p + r : Nat) : Int))) ⟨b.1, by omega⟩ (n := 3) (by decide)
    rw [show zshl 1 ((3 : Nat) : Int) = 8 by decide +kernel] at e
    rw [e]
    constructor
    · intro h
      obtain ⟨k, h0, h1, h2, h4, h5, h6⟩ := (t 3).mp (tb_of h)
      have q := sr k h0 h1
      refine ⟨k, h0, by omega, h2, Or.inl ?_, h4, h5⟩
      unfold sbt at h6
      by_cases y : S k = -1
      · exact y
      · rw [if_neg y] at h6; omega
    · rintro ⟨k, h0, h1, h2, h4, h5, h6⟩ h
      have s : S k = -1 := by
        rcases h4 with h4 | h4
        · exact h4
        · exact absurd h4 z
      have y := (t 3).mpr ⟨k, h0, by omega, h2, h5, h6, by unfold sbt; rw [if_pos s]⟩
      rw [h] at y; cases y
