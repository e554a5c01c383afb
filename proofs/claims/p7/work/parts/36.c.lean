/-! relations of three states, as numbers of nine bits -/
theorem zand_nat {a b : Int} (ha : 0 ≤ a ∧ a ≤ 2147483647) (hb : 0 ≤ b ∧ b ≤ 2147483647) : zand a b = ((a.toNat &&& b.toNat : Nat) : Int) := by
  have h1 : (Int32.ofInt a &&& Int32.ofInt b).toBitVec.toNat = a.toNat &&& b.toNat := by
    rw [Int32.toBitVec_and, BitVec.toNat_and, zb_of ha, zb_of hb]
  have h3 : a.toNat &&& b.toNat ≤ a.toNat := Nat.and_le_left
  exact zb_nn h1 (by omega)
theorem zor_nat {a b : Int} (ha : 0 ≤ a ∧ a ≤ 2147483647) (hb : 0 ≤ b ∧ b ≤ 2147483647) : zor a b = ((a.toNat ||| b.toNat : Nat) : Int) := by
  have h1 : (Int32.ofInt a ||| Int32.ofInt b).toBitVec.toNat = a.toNat ||| b.toNat := by
    rw [Int32.toBitVec_or, BitVec.toNat_or, zb_of ha, zb_of hb]
  have h3 : a.toNat ||| b.toNat < 2 ^ 31 := Nat.or_lt_two_pow (by omega) (by omega)
  exact zb_nn h1 (by omega)
theorem zsm {k : Nat} (hk : k < 31) : ((Int32.ofInt (k : Int) &&& 31).toBitVec.smod 32).toNat = k := by
  have e1 : (Int32.ofInt (k : Int) &&& 31).toBitVec.toNat = k := by
    rw [Int32.toBitVec_and, BitVec.toNat_and, zb_of ⟨by omega, by omega⟩]
    show (k : Int).toNat &&& 31 = k
    rw [show (k : Int).toNat = k by omega, show (31 : Nat) = 2 ^ 5 - 1 by rfl, Nat.and_two_pow_sub_one_eq_mod]
    omega
  rw [BitVec.smod_eq, BitVec.msb_eq_decide, e1]
  have : (decide (2 ^ (32 - 1) ≤ k)) = false := by simp; omega
  rw [this]
  show (BitVec.umod _ _).toNat = k
  rw [BitVec.umod_eq, BitVec.toNat_umod, e1]
  show k % 32 = k
  omega
theorem zshr_nat {a : Int} (k : Nat) (hk : k < 31) (ha : 0 ≤ a ∧ a ≤ 2147483647) : zshr a k = ((a.toNat >>> k : Nat) : Int) := by
  have h0 : (Int32.ofInt a).toBitVec.msb = false := by
    rw [BitVec.msb_eq_decide, zb_of ha]; simp; omega
  have h1 : (Int32.ofInt a >>> (Int32.ofInt (k : Int) &&& 31)).toBitVec.toNat = a.toNat >>> k := by
    rw [Int32.toBitVec_shiftRight, BitVec.sshiftRight_eq', BitVec.sshiftRight_eq_of_msb_false h0, BitVec.toNat_ushiftRight, zb_of ha, zsm hk]
  have h3 : a.toNat >>> k ≤ a.toNat := Nat.shiftRight_le _ _
  exact zb_nn h1 (by omega)
def tb (x : Int) (i : Nat) : Bool := x.toNat.testBit i
abbrev sm9 (x : Int) : Prop := 0 ≤ x ∧ x < 512
theorem sm9.big {x : Int} (h : sm9 x) : 0 ≤ x ∧ x ≤ 2147483647 := ⟨h.1, by have := h.2; omega⟩
theorem sm9.zor {a b : Int} (ha : sm9 a) (hb : sm9 b) : sm9 (zor a b) := zor_lt 9 (by decide) ha hb
theorem tb_zor {a b : Int} (ha : 0 ≤ a ∧ a ≤ 2147483647) (hb : 0 ≤ b ∧ b ≤ 2147483647) (i : Nat) : tb (zor a b) i = (tb a i || tb b i) := by
  unfold tb; rw [zor_nat ha hb, Int.toNat_natCast, Nat.testBit_or]
theorem tb_0 (i : Nat) : tb 0 i = false := by unfold tb; simp
theorem tb_1 {n : Nat} (hn : n < 31) (i : Nat) : tb (zshl 1 n) i = decide (n = i) := by
  have h0 : 0 < (2 ^ n : Nat) := Nat.two_pow_pos n
  have hp : (2 ^ n : Nat) ≤ 2 ^ 30 := Nat.pow_le_pow_right (by omega) (by omega)
  have e := zshl_c (a := 1) n hn ⟨by omega, by omega⟩
  unfold tb
  rw [e, Int.one_mul, Int.toNat_natCast, Nat.testBit_two_pow]
theorem sm9_1 {n : Nat} (hn : n < 9) : sm9 (zshl 1 n) := by
  have hp : (2 ^ n : Nat) ≤ 2 ^ 8 := Nat.pow_le_pow_right (by omega) (by omega)
  have h0 : 0 < (2 ^ n : Nat) := Nat.two_pow_pos n
  have e := zshl_c (a := 1) n (by omega) ⟨by omega, by omega⟩
  rw [e]; constructor <;> omega
theorem tb_and {x : Int} (hx : sm9 x) {n : Nat} (hn : n < 9) : zand x (zshl 1 n) = 0 ↔ tb x n = false := by
  have h0 : 0 < (2 ^ n : Nat) := Nat.two_pow_pos n
  have hp : (2 ^ n : Nat) ≤ 2 ^ 8 := Nat.pow_le_pow_right (by omega) (by omega)
  have e := zshl_c (a := 1) n (by omega) ⟨by omega, by omega⟩
  rw [e, Int.one_mul, zand_nat hx.big ⟨by omega, by omega⟩, Int.toNat_natCast]
  unfold tb
  constructor
  · intro h
    have h2 : x.toNat &&& 2 ^ n = 0 := by omega
    have h3 : (x.toNat &&& 2 ^ n).testBit n = false := by rw [h2]; simp
    rw [Nat.testBit_and, Nat.testBit_two_pow] at h3
    simpa using h3
  · intro h
    have : x.toNat &&& 2 ^ n = 0 := by
      apply Nat.eq_of_testBit_eq
      intro i
      rw [Nat.testBit_and, Nat.testBit_two_pow, Nat.zero_testBit]
      by_cases hi : n = i
      · subst hi; simp [h]
      · simp [hi]
    omega
/-- a row of one relation, laid at a row -/
theorem tb_row {y : Int} (hy : sm9 y) {p q : Nat} (hp : p < 3) (hq : q < 3) (i : Nat) : tb (zshl (zand (zshr y ((3 * q : Nat) : Int)) 7) ((3 * p : Nat) : Int)) i = (decide (i / 3 = p) && tb y (3 * q + i % 3)) ∧ sm9 (zshl (zand (zshr y ((3 * q : Nat) : Int)) 7) ((3 * p : Nat) : Int)) := by
  have e1 := zshr_nat (a := y) (3 * q) (by omega) hy.big
  have h1 : y.toNat >>> (3 * q) ≤ y.toNat := Nat.shiftRight_le _ _
  have hy2 := hy.2
  have e2 : zand (((y.toNat >>> (3 * q) : Nat) : Int)) 7 = ((y.toNat >>> (3 * q) &&& 7 : Nat) : Int) := by
    rw [zand_nat ⟨Int.natCast_nonneg _, by omega⟩ ⟨by omega, by omega⟩, Int.toNat_natCast]; rfl
  have h7 : y.toNat >>> (3 * q) &&& 7 ≤ 7 := Nat.and_le_right
  have hp2 : (2 ^ (3 * p) : Nat) ≤ 2 ^ 6 := Nat.pow_le_pow_right (by omega) (by omega)
  have h8 : (y.toNat >>> (3 * q) &&& 7) * 2 ^ (3 * p) ≤ 7 * 2 ^ 6 := Nat.mul_le_mul h7 hp2
  have h9 : ((y.toNat >>> (3 * q) &&& 7 : Nat) : Int) * ((2 ^ (3 * p) : Nat) : Int) = (((y.toNat >>> (3 * q) &&& 7) * 2 ^ (3 * p) : Nat) : Int) := by rw [Int.natCast_mul]
  have e3 := zshl_c (a := ((y.toNat >>> (3 * q) &&& 7 : Nat) : Int)) (3 * p) (by omega) ⟨by omega, by rw [h9]; omega⟩
  rw [e1, e2, e3, h9]
  refine ⟨?_, by constructor <;> omega⟩
  unfold tb
  rw [Int.toNat_natCast, ← Nat.shiftLeft_eq, Nat.testBit_shiftLeft, Nat.testBit_and, Nat.testBit_shiftRight, show (7 : Nat) = 2 ^ 3 - 1 by rfl, Nat.testBit_two_pow_sub_one]
  by_cases hi : i / 3 = p
  · rw [show i - 3 * p = i % 3 by omega]
    have : decide (i ≥ 3 * p) = true := by simp; omega
    have h3 : decide (i % 3 < 3) = true := by simp; omega
    simp [hi, h3]; omega
  · by_cases h4 : i ≥ 3 * p
    · have h3 : decide (i - 3 * p < 3) = false := by simp; omega
      simp [hi, h3]
    · have : decide (i ≥ 3 * p) = false := by simp; omega
      simp [hi, this]
def thn (x y : Int) : Nat → Int
  | 0 => 0
  | n + 1 => if zand x (zshl 1 (n : Int)) = 0 then thn x y n else zor (thn x y n) (zshl (zand (zshr y ((3 * (n % 3) : Nat) : Int)) 7) ((3 * (n / 3) : Nat) : Int))
theorem thn_all {x y : Int} (hx : sm9 x) (hy : sm9 y) (n : Nat) (hn : n ≤ 9) : sm9 (thn x y n) ∧ ∀ i, tb (thn x y n) i = true ↔ ∃ m, m < n ∧ tb x m = true ∧ m / 3 = i / 3 ∧ tb y (3 * (m % 3) + i % 3) = true := by
  induction n with
  | zero =>
    refine ⟨(⟨by decide, by decide⟩ : sm9 0), fun i => ?_⟩
    show tb 0 i = true ↔ _
    rw [tb_0]
    constructor
    · intro h; cases h
    · rintro ⟨m, h, _⟩; omega
  | succ n ih =>
    obtain ⟨ih1, ih2⟩ := ih (by omega)
    have e : thn x y (n + 1) = if zand x (zshl 1 (n : Int)) = 0 then thn x y n else zor (thn x y n) (zshl (zand (zshr y ((3 * (n % 3) : Nat) : Int)) 7) ((3 * (n / 3) : Nat) : Int)) := rfl
    have hb := tb_and hx (n := n) (by omega)
    by_cases hz : zand x (zshl 1 (n : Int)) = 0
    · rw [e, if_pos hz]
      refine ⟨ih1, fun i => ?_⟩
      rw [ih2 i]
      have hf := hb.mp hz
      constructor
      · rintro ⟨m, h, h2⟩; exact ⟨m, by omega, h2⟩
      · rintro ⟨m, h, h2⟩
        refine ⟨m, ?_, h2⟩
        by_cases hm : m = n
        · subst hm; rw [hf] at h2; cases h2.1
        · omega
    · rw [e, if_neg hz]
      have ht : tb x n = true := by
        cases hc : tb x n with
        | true => rfl
        | false => exact absurd (hb.mpr hc) hz
      have hr := fun i => tb_row hy (p := n / 3) (q := n % 3) (by omega) (by omega) i
      refine ⟨ih1.zor (hr 0).2, fun i => ?_⟩
      rw [tb_zor ih1.big (hr 0).2.big, (hr i).1, Bool.or_eq_true, ih2 i, Bool.and_eq_true, decide_eq_true_eq]
      constructor
      · rintro (⟨m, h, h2⟩ | ⟨h, h2⟩)
        · exact ⟨m, by omega, h2⟩
        · exact ⟨n, by omega, ht, h.symm, h2⟩
      · rintro ⟨m, h, h2, h3, h4⟩
        by_cases hm : m = n
        · subst hm; exact Or.inr ⟨h3.symm, h4⟩
        · exact Or.inl ⟨m, by omega, h2, h3, h4⟩
def thnZ (x y n : Int) : Int := thn x y n.toNat
def RR (x : Int) (a b : Nat) : Prop := tb x (3 * a + b) = true
theorem sm9.thn {x y : Int} (hx : sm9 x) (hy : sm9 y) : sm9 (thnZ x y 9) := (thn_all hx hy 9 (by omega)).1
theorem RR_thn {x y : Int} (hx : sm9 x) (hy : sm9 y) {a b : Nat} (ha : a < 3) (hb : b < 3) : RR (thnZ x y 9) a b ↔ ∃ r, r < 3 ∧ RR x a r ∧ RR y r b := by
  unfold RR
  show tb (thn x y 9) (3 * a + b) = true ↔ _
  rw [(thn_all hx hy 9 (by omega)).2]
  constructor
  · rintro ⟨m, h, h2, h3, h4⟩
    refine ⟨m % 3, by omega, ?_, ?_⟩
    · rw [show 3 * a + m % 3 = m by omega]; exact h2
    · rw [show 3 * (m % 3) + b = 3 * (m % 3) + (3 * a + b) % 3 by omega]; exact h4
  · rintro ⟨r, h, h2, h3⟩
    refine ⟨3 * a + r, by omega, h2, by omega, ?_⟩
    rw [show 3 * ((3 * a + r) % 3) + (3 * a + b) % 3 = 3 * r + b by omega]; exact h3
theorem RR_ext {x y : Int} (hx : sm9 x) (hy : sm9 y) (h : ∀ a b, a < 3 → b < 3 → (RR x a b ↔ RR y a b)) : x = y := by
  have e : x.toNat = y.toNat := by
    apply Nat.eq_of_testBit_eq
    intro i
    by_cases hi : i < 9
    · have q := h (i / 3) (i % 3) (by omega) (by omega)
      unfold RR tb at q
      rw [show 3 * (i / 3) + i % 3 = i by omega] at q
      cases h1 : x.toNat.testBit i <;> cases h2 : y.toNat.testBit i <;> simp [h1, h2] at q <;> rfl
    · have hp : (2 ^ 9 : Nat) ≤ 2 ^ i := Nat.pow_le_pow_right (by omega) (by omega)
      have := hx.1; have := hx.2; have := hy.1; have := hy.2
      rw [Nat.testBit_lt_two_pow (by omega), Nat.testBit_lt_two_pow (by omega)]
  have := hx.1; have := hy.1; omega
theorem thn_assoc {x y z : Int} (hx : sm9 x) (hy : sm9 y) (hz : sm9 z) : thnZ (thnZ x y 9) z 9 = thnZ x (thnZ y z 9) 9 := by
  refine RR_ext ((hx.thn hy).thn hz) (hx.thn (hy.thn hz)) (fun a b ha hb => ?_)
  rw [RR_thn (hx.thn hy) hz ha hb, RR_thn hx (hy.thn hz) ha hb]
  constructor
  · rintro ⟨r, h, h2, h3⟩
    obtain ⟨q, h4, h5, h6⟩ := (RR_thn hx hy ha h).mp h2
    exact ⟨q, h4, h5, (RR_thn hy hz h4 hb).mpr ⟨r, h, h6, h3⟩⟩
  · rintro ⟨q, h4, h5, h6⟩
    obtain ⟨r, h, h2, h3⟩ := (RR_thn hy hz h4 hb).mp h6
    exact ⟨r, h, (RR_thn hx hy ha h).mpr ⟨q, h4, h5, h2⟩, h3⟩
/-- where a letter leads -/
def lead (f : Int → Int) (b s : Int) : Nat → Int
  | 0 => 0
  | n + 1 => if zand (f (b + (n : Int))) s = 0 then lead f b s n else zor (lead f b s n) (zshl 1 (n : Int))
def leadZ (f : Int → Int) (b s n : Int) : Int := lead f b s n.toNat
theorem lead_all (f : Int → Int) (b s : Int) (n : Nat) (hn : n ≤ 9) : sm9 (lead f b s n) ∧ ∀ i, tb (lead f b s n) i = true ↔ i < n ∧ ¬ zand (f (b + (i : Int))) s = 0 := by
  induction n with
  | zero =>
    refine ⟨(⟨by decide, by decide⟩ : sm9 0), fun i => ?_⟩
    show tb 0 i = true ↔ _
    rw [tb_0]
    constructor
    · intro h; cases h
    · rintro ⟨h, _⟩; omega
  | succ n ih =>
    obtain ⟨ih1, ih2⟩ := ih (by omega)
    have e : lead f b s (n + 1) = if zand (f (b + (n : Int))) s = 0 then lead f b s n else zor (lead f b s n) (zshl 1 (n : Int)) := rfl
    by_cases hz : zand (f (b + (n : Int))) s = 0
    · rw [e, if_pos hz]
      refine ⟨ih1, fun i => ?_⟩
      rw [ih2 i]
      constructor
      · rintro ⟨h, h2⟩; exact ⟨by omega, h2⟩
      · rintro ⟨h, h2⟩
        refine ⟨?_, h2⟩
        by_cases hm : i = n
        · subst hm; exact absurd hz h2
        · omega
    · rw [e, if_neg hz]
      have hs := sm9_1 (n := n) (by omega)
      refine ⟨ih1.zor hs, fun i => ?_⟩
      rw [tb_zor ih1.big hs.big, tb_1 (by omega), Bool.or_eq_true, ih2 i, decide_eq_true_eq]
      constructor
      · rintro (⟨h, h2⟩ | h)
        · exact ⟨by omega, h2⟩
        · subst h; exact ⟨by omega, hz⟩
      · rintro ⟨h, h2⟩
        by_cases hm : n = i
        · exact Or.inr hm
        · exact Or.inl ⟨by omega, h2⟩
theorem sm9.lead (f : Int → Int) (b s : Int) : sm9 (leadZ f b s 9) := (lead_all f b s 9 (by omega)).1
theorem lead_cong {f g : Int → Int} {b s : Int} (n : Nat) (h : ∀ i : Nat, i < n → f (b + (i : Int)) = g (b + (i : Int))) : lead f b s n = lead g b s n := by
  induction n with
  | zero => rfl
  | succ n ih =>
    show (if _ then _ else _) = if _ then _ else _
    rw [ih (fun i hi => h i (by omega)), h n (by omega)]
/-- the same state -/
def sme : Nat → Int
  | 0 => 0
  | q + 1 => zor (sme q) (zshl 1 ((3 * q + q : Nat) : Int))
def smeZ (n : Int) : Int := sme n.toNat
theorem sme_all (n : Nat) (hn : n ≤ 3) : sm9 (sme n) ∧ ∀ i, tb (sme n) i = true ↔ ∃ q, q < n ∧ i = 3 * q + q := by
  induction n with
  | zero =>
    refine ⟨⟨by decide, by decide⟩, fun i => ?_⟩
    show tb 0 i = true ↔ _
    rw [tb_0]
    constructor
    · intro h; cases h
    · rintro ⟨q, h, _⟩; omega
  | succ n ih =>
    obtain ⟨ih1, ih2⟩ := ih (by omega)
    have e : sme (n + 1) = zor (sme n) (zshl 1 ((3 * n + n : Nat) : Int)) := rfl
    have hs := sm9_1 (n := 3 * n + n) (by omega)
    rw [e]
    refine ⟨ih1.zor hs, fun i => ?_⟩
    rw [tb_zor ih1.big hs.big, tb_1 (by omega), Bool.or_eq_true, ih2 i, decide_eq_true_eq]
    constructor
    · rintro (⟨q, h, h2⟩ | h)
      · exact ⟨q, by omega, h2⟩
      · exact ⟨n, by omega, h.symm⟩
    · rintro ⟨q, h, h2⟩
      by_cases hm : q = n
      · subst hm; exact Or.inr h2.symm
      · exact Or.inl ⟨q, by omega, h2⟩
theorem sm9.sme {n : Int} (hn : n ≤ 3) : sm9 (smeZ n) := (sme_all n.toNat (by omega)).1
theorem RR_sme {n : Int} (hn : n ≤ 3) {a b : Nat} (ha : a < 3) (hb : b < 3) : RR (smeZ n) a b ↔ a = b ∧ (a : Int) < n := by
  unfold RR smeZ
  rw [(sme_all n.toNat (by omega)).2]
  constructor
  · rintro ⟨q, h, h2⟩; omega
  · rintro ⟨h, h2⟩; exact ⟨a, by omega, by omega⟩
/-- over a call, what is between, and a return -/
def ovt (f : Int → Int) (a x c l g : Int) : Int := thnZ (thnZ (leadZ f (54 * a + 9 * c) g 9) x 9) (leadZ f (54 * a + 9 * l) g 9) 9
def ovr (f : Int → Int) (a x c l : Int) : Int := zor (zor (zor 0 (ovt f a x c l 1)) (ovt f a x c l 2)) (ovt f a x c l 4)
/-- within so many states -/
def Bd (n x : Int) : Prop := ∀ a b : Nat, a < 3 → b < 3 → RR x a b → (a : Int) < n ∧ (b : Int) < n
theorem Bd.thn {n x y : Int} (hx : sm9 x) (hy : sm9 y) (h1 : Bd n x) (h2 : Bd n y) : Bd n (thnZ x y 9) := by
  intro a b ha hb h
  obtain ⟨r, hr, h3, h4⟩ := (RR_thn hx hy ha hb).mp h
  exact ⟨(h1 a r ha hr h3).1, (h2 r b hr hb h4).2⟩
theorem Bd.sme {n : Int} (hn : n ≤ 3) : Bd n (smeZ n) := by
  intro a b ha hb h
  have := (RR_sme hn ha hb).mp h
  omega
theorem thn_idl {n x : Int} (hn : n ≤ 3) (hx : sm9 x) (h : Bd n x) : thnZ (smeZ n) x 9 = x := by
  refine RR_ext ((sm9.sme hn).thn hx) hx (fun a b ha hb => ?_)
  rw [RR_thn (sm9.sme hn) hx ha hb]
  constructor
  · rintro ⟨r, hr, h2, h3⟩
    have := ((RR_sme hn ha hr).mp h2).1
    subst this; exact h3
  · intro h2
    exact ⟨a, ha, (RR_sme hn ha ha).mpr ⟨rfl, (h a b ha hb h2).1⟩, h2⟩
/-! the rules, as they are laid -/
def rbit (v : Int) : Int := if v = -1 then 8 else zshl 1 v
def rpl (A : Int → Int) (a k : Int) : Int := 54 * a + 9 * A (105 + 85 * a + 4 * k) + 3 * A (106 + 85 * a + 4 * k) + A (107 + 85 * a + 4 * k)
def lay1 (A : Int → Int) (a : Int) (f : Int → Int) : Nat → Int → Int
  | 0 => f
  | k + 1 => fun i => if i = rpl A a k then zor (lay1 A a f k i) (rbit (A (108 + 85 * a + 4 * (k : Int)))) else lay1 A a f k i
def layA (A : Int → Int) : Nat → Int → Int
  | 0 => fun _ => 0
  | a + 1 => lay1 A a (layA A a) (A (104 + 85 * (a : Int))).toNat
def laid (A : Int → Int) : Int → Int := layA A (A 3).toNat
def LD (M : Mem) : Prop := ∀ i, 0 ≤ i → i < 108 → M 171 i = laid (M 164) i
/-- what the one array's rules hold -/
def AR (A : Int → Int) : Prop := ∀ a k, 0 ≤ a → a ≤ 1 → 0 ≤ k → k ≤ 19 → (0 ≤ A (105 + 85 * a + 4 * k) ∧ A (105 + 85 * a + 4 * k) ≤ 5) ∧ (0 ≤ A (106 + 85 * a + 4 * k) ∧ A (106 + 85 * a + 4 * k) ≤ 2) ∧ (0 ≤ A (107 + 85 * a + 4 * k) ∧ A (107 + 85 * a + 4 * k) ≤ 2) ∧ A (104 + 85 * a) ≤ 20
theorem AR_of {M : Mem} (hI : Inv true M) : AR (M 164) := by
  intro a k h0 h1 h2 h3
  have f0 := at_r (105 + 85 * a + 4 * k) 0 a k 0 (by omega) (by omega) (by omega) (by decide)
  have f1 := at_r (106 + 85 * a + 4 * k) 0 a k 1 (by omega) (by omega) (by omega) (by decide)
  have f2 := at_r (107 + 85 * a + 4 * k) 0 a k 2 (by omega) (by omega) (by omega) (by decide)
  have f4 := at_a (104 + 85 * a) 0 a 4 (by omega) (by omega) (by decide)
  exact ⟨Inv.g hI kd_164 rfl _ (a := 0) (b := 5) f0.1 f0.2, Inv.g hI kd_164 rfl _ (a := 0) (b := 2) f1.1 f1.2, Inv.g hI kd_164 rfl _ (a := 0) (b := 2) f2.1 f2.2, (Inv.g hI kd_164 rfl _ (a := 0) (b := 20) f4.1 f4.2).2⟩
/-! what a table holds is closed; relations that stay within each such -/
def ClT (A : Int → Int) (b : Int) (T : List Int) : Prop := (∀ S ∈ T, sm9 S) ∧ smeZ (A (100 + 85 * b)) ∈ T ∧ (∀ S ∈ T, ∀ l, A 0 + A 1 ≤ l → l < A 0 + A 1 + A 2 → thnZ S (leadZ (laid A) (54 * b + 9 * l) 8 9) 9 ∈ T) ∧ (∀ S ∈ T, ∀ K ∈ T, ∀ c l, 0 ≤ c → c < A 0 → A 0 ≤ l → l < A 0 + A 1 → thnZ S (ovr (laid A) b K c l) 9 ∈ T)
def Clo (A : Int → Int) (b : Int) : Prop := ∃ T : List Int, T.length ≤ 40 ∧ ClT A b T
def Gd (A : Int → Int) (b x : Int) : Prop := sm9 x ∧ Bd (A (100 + 85 * b)) x ∧ ∀ T, ClT A b T → ∀ S ∈ T, Bd (A (100 + 85 * b)) S → thnZ S x 9 ∈ T
/-- the rules are as they must be -/
def AOK (A : Int → Int) (b : Int) : Prop := AR A ∧ RWs A 0 ∧ (0 ≤ A 3 ∧ A 3 ≤ 2) ∧ A (100 + 85 * b) ≤ 3 ∧ (0 ≤ A 0 ∧ A 0 ≤ 2) ∧ (0 ≤ A 1 ∧ A 1 ≤ 2) ∧ (0 ≤ A 2 ∧ A 2 ≤ 2)
theorem Gd.mem {A : Int → Int} {b x : Int} (h : AOK A b) (hx : Gd A b x) {T : List Int} (hT : ClT A b T) : x ∈ T := by
  have := hx.2.2 T hT _ hT.2.1 (Bd.sme h.2.2.2.1)
  rw [thn_idl h.2.2.2.1 hx.1 hx.2.1] at this; exact this
theorem Gd.thn {A : Int → Int} {b x y : Int} (hx : Gd A b x) (hy : Gd A b y) : Gd A b (thnZ x y 9) := by
  refine ⟨hx.1.thn hy.1, Bd.thn hx.1 hy.1 hx.2.1 hy.2.1, fun T hT S hS hB => ?_⟩
  rw [← thn_assoc (hT.1 S hS) hx.1 hy.1]
  exact hy.2.2 T hT _ (hx.2.2 T hT S hS hB) (Bd.thn (hT.1 S hS) hx.1 hB hx.2.1)
theorem ph_le : ∀ (l T : List Int), l.Nodup → (∀ x ∈ l, x ∈ T) → l.length ≤ T.length := by
  intro l
  induction l with
  | nil => intro T _ _; exact Nat.zero_le _
  | cons a l ih =>
    intro T hn hs
    have ha : a ∈ T := hs a List.mem_cons_self
    have hn2 := List.nodup_cons.mp hn
    have h1 := ih (T.erase a) hn2.2 (fun x hx => by
      refine (List.mem_erase_of_ne (fun e => ?_)).mpr (hs x (List.mem_cons_of_mem _ hx))
      subst e; exact hn2.1 hx)
    rw [List.length_erase_of_mem ha] at h1
    have h2 : 0 < T.length := List.length_pos_of_mem ha
    show l.length + 1 ≤ T.length
    omega
def RO (A : Int → Int) (b : Int) (M : Mem) : Prop := (∀ i, 0 ≤ i → i < M 163 45 → Gd A b (M 187 i)) ∧ ∀ i j, 0 ≤ i → i < j → j < M 163 45 → ¬ M 187 i = M 187 j
theorem RO.le {A : Int → Int} {b : Int} {M : Mem} (h : RO A b M) (hA : AOK A b) (hc : Clo A b) : M 163 45 ≤ 40 := by
  obtain ⟨T, hl, hT⟩ := hc
  by_cases h0 : M 163 45 ≤ 0
  · omega
  have h1 := ph_le ((List.range (M 163 45).toNat).map (fun i : Nat => M 187 (i : Int))) T (by
    refine List.nodup_iff_pairwise_ne.mpr ?_
    refine List.pairwise_map.mpr ?_
    refine List.Pairwise.imp_of_mem ?_ (List.pairwise_lt_range (n := (M 163 45).toNat))
    intro i j hi hj hij
    have := List.mem_range.mp hj
    exact h.2 i j (by omega) (by omega) (by omega)) (by
    intro x hx
    obtain ⟨i, hi, rfl⟩ := List.mem_map.mp hx
    have := List.mem_range.mp hi
    exact (h.1 i (by omega) (by omega)).mem hA hT)
  rw [List.length_map, List.length_range] at h1
  omega

