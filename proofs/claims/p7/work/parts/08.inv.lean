def kAT : Nat := 65
def rla : List Int := [0, 0, 0, 0, 0, -1, 0, 0, 0, 0, 0, 0, 0, 0, -9223372036854775808, 0, -1, 0, -128, 0, 0, 0, 0, 0, -2147483648, 0, 0, 0, 0, -2147483648, 0, 0, 0, 0, -2147483648, 0, 0, 0, 0, -2147483648, 0, 0, -1, -2147483648, 0, -1, -2147483648, 0, 0, -2147483648, 0, 0, -2147483648, 0, -2147483648, -2147483648, 0, -9223372036854775808, -9223372036854775808, -9223372036854775808, 0, -9223372036854775808, 0, 0, 0, 0, -9223372036854775808, 0, -1, -9223372036854775808, -128, -128, 0, 0, 0, -1, 0, -9223372036854775808, -9223372036854775808, -9223372036854775808, -1, 0, 0, 0, 0, 0, 0, 0, 0, 0, -1]
def rha : List Int := [0, 0, 5, 2, 2, 2, 511, 511, 0, 7, 511, 5, 0, 0, 9223372036854775807, 3, 60, 0, 127, 900, 900, 0, 7, 511, 2147483647, 511, 0, 575, 1000000000, 2147483647, 2, 0, 47, 1000000000, 2147483647, 2, 0, 575, 1000000000, 2147483647, 2, 0, 1000000000, 2147483647, 511, 63, 2147483647, 0, 511, 2147483647, 187, 511, 2147483647, 750, 2147483647, 2147483647, 0, 9223372036854775807, 9223372036854775807, 9223372036854775807, 5, 9223372036854775807, 0, 193, 0, 0, 9223372036854775807, 3, 60, 9223372036854775807, 127, 127, 15, 7, 511, 19, 19, 9223372036854775807, 9223372036854775807, 9223372036854775807, 19, 7, 511, 1000000, 1000000, 1000000, 511, 1000000, 1000000, 5, 6]
def rka : List Nat := [0, 0, 0, 0, 0, 0, 0, 0, 0, 0, 0, 0, 0, 0, 0, 0, 0, 0, 0, 0, 0, 0, 0, 0, 0, 0, 0, 0, 0, 0, 0, 0, 0, 0, 0, 0, 0, 0, 0, 0, 0, 0, 0, 0, 0, 0, 0, 0, 0, 0, 0, 0, 0, 0, 0, 0, 0, 0, 0, 0, 0, 0, 0, 12, 0, 0, 0, 0, 0, 0, 0, 0, 0, 0, 0, 0, 0, 0, 0, 0, 0, 0, 0, 0, 0, 0, 0, 0, 0, 0, 0]
def rll : List (List Int) := [[], [0, 0, 0, 0, 0, 0, 0, 0, 0, 0, 0, 0], [], [], [], [], [], [], [-1, -2147483648, 0, 0, 0, 0, 0, 0], [], [], [], [0, 0, 0, 0, 0, 0, 0], [0, 0, 0], [], [], [], [0, 0, -2147483648, -2147483648, 0, 0, 0, 0, 0, -2147483648, 0, 0], [], [], [], [0, 0, 0, 0, 0, 0], [], [], [], [], [0, 0, 0, 0, 0], [], [], [], [], [0, 0, 0, 0, 0], [], [], [], [], [0, 0, 0, 0, 0], [], [], [], [], [0, 0, -2147483648, 0, 0, 0, 0, 0, 0, 0, 0, 0, 0, 0, 0, 0, 0], [], [], [], [], [], [0, 0, 0, 0, 0, 0, 0, 0, 0, 0, 0, 0, 0], [], [], [], [], [], [], [], [], [0, 0, 0, 0, 0, 0, 0], [], [], [], [], [], [-2147483648, -9223372036854775808, -9223372036854775808, 0, 0, 0, 0, 0, 0, 0, 0, 0, 0, 0, 0], [], [0, 0, -2147483648, -9223372036854775808, -9223372036854775808, 0, 0, 0, 0, 0, 0, 0, 0, 0, 0, -2147483648, -2147483648, -2147483648, -2147483648, -2147483648, 0, 0, 0, 0, 0, 0, 0, 0, 0, 0, 0, 0, 0, 0, 0, 0, 0, 0, 0, 0, 0, 0, 0, 0, 0, 0, 0, 0, -2147483648, 0, 0], [], [], [], [], [], [], [], [], [], [], [], [], [], [], [], [], [], [], [], [], [], [], [], [], [], []]
def rhl : List (List Int) := [[], [3, 3, 7, 7, 20, 2, 193, 193, 193, 193, 193, 193], [], [], [], [], [], [], [1, 2147483647, 30, 7, 511, 193, 193, 193], [], [], [], [2, 4, 6, 2, 193, 193, 193], [193, 193, 193], [], [], [], [193, 900, 2147483647, 2147483647, 193, 900, 5, 900, 900, 2147483647, 193, 193], [], [], [], [1, 41, 193, 193, 193, 193], [], [], [], [], [576, 193, 193, 193, 193], [], [], [], [], [48, 193, 193, 193, 193], [], [], [], [], [576, 193, 193, 193, 193], [], [], [], [], [193, 193, 2147483647, 2, 4, 6, 193, 193, 193, 1, 193, 193, 193, 64, 193, 193, 193], [], [], [], [], [], [2, 4, 6, 187, 193, 193, 193, 750, 193, 193, 193, 193, 193], [], [], [], [], [], [], [], [], [20, 193, 193, 193, 193, 193, 193], [], [], [], [], [], [2147483647, 9223372036854775807, 9223372036854775807, 193, 193, 193, 193, 3, 193, 193, 193, 193, 193, 193, 65535], [], [193, 193, 2147483647, 9223372036854775807, 9223372036854775807, 193, 193, 193, 193, 193, 900, 900, 4, 900, 900, 2147483647, 2147483647, 2147483647, 2147483647, 2147483647, 193, 193, 193, 193, 193, 193, 193, 193, 193, 193, 20, 20, 20, 193, 193, 41, 193, 193, 193, 193, 193, 193, 193, 193, 193, 64, 193, 193, 2147483647, 65535, 3], [], [], [], [], [], [], [], [], [], [], [], [], [], [], [], [], [], [], [], [], [], [], [], [], [], []]
def rkl : List (List Nat) := [[], [0, 0, 0, 0, 0, 0, 2, 3, 4, 5, 6, 7], [], [], [], [], [], [], [0, 0, 0, 0, 0, 9, 10, 11], [], [], [], [0, 0, 0, 0, 1, 1, 8], [14, 15, 16], [], [], [], [12, 0, 0, 0, 18, 0, 0, 0, 0, 0, 19, 20], [], [], [], [0, 0, 22, 23, 24, 25], [], [], [], [], [0, 27, 28, 29, 30], [], [], [], [], [0, 32, 33, 34, 35], [], [], [], [], [0, 37, 38, 39, 40], [], [], [], [], [42, 43, 0, 0, 0, 0, 1, 1, 1, 0, 26, 36, 31, 0, 44, 45, 46], [], [], [], [], [], [0, 0, 0, 0, 48, 49, 50, 0, 51, 52, 53, 54, 55], [], [], [], [], [], [], [], [], [0, 57, 58, 59, 60, 61, 61], [], [], [], [], [], [0, 0, 0, 13, 17, 12, 63, 0, 21, 21, 41, 47, 8, 56, 0], [], [65, 66, 0, 0, 0, 67, 68, 69, 70, 71, 0, 0, 0, 0, 0, 0, 0, 0, 0, 0, 72, 73, 74, 75, 76, 77, 78, 79, 79, 80, 0, 0, 0, 81, 82, 0, 83, 84, 85, 85, 86, 87, 87, 88, 88, 0, 89, 90, 0, 0, 0], [], [], [], [], [], [], [], [], [], [], [], [], [], [], [], [], [], [], [], [], [], [], [], [], [], []]
def atq (i : Int) : Int := i % 272
def atlo (i : Int) : Int := let o := atq i; if o = 4 then -1 else if o = 5 then -2147483648 else if 100 ≤ o ∧ o < 270 then (let p := (o - 100) % 85; if 5 ≤ p ∧ (p - 5) % 4 = 3 then -1 else 0) else if 270 ≤ o then -2147483648 else 0
def athi (i : Int) : Int := let o := atq i; if o < 4 then 2 else if o = 4 then 1 else if o = 5 then 2147483647 else if o = 6 then 30 else if o = 7 then 7 else if o = 8 then 511 else if o = 9 then 0 else if o < 100 then (let p := (o - 10) % 3; if p = 0 then 7 else if p = 1 then 511 else 5) else if o < 270 then (let p := (o - 100) % 85; if p < 2 then 3 else if p < 4 then 7 else if p = 4 then 20 else (let q := (p - 5) % 4; if q = 0 then 5 else 2)) else 2147483647
/-! what each kind of cell may hold; what a method leaves as it was -/
def rlo (k : Nat) (i : Int) : Int := if k = kAT then atlo i else match kA k with
  | some _ => rla.getD k 0
  | none => (rll.getD k []).getD i.toNat 0
def rhi (k : Nat) (i : Int) : Int := if k = kAT then athi i else match kA k with
  | some _ => rha.getD k 0
  | none => (rhl.getD k []).getD i.toNat 0
def rk (k : Nat) (i : Int) : Nat := match kA k with
  | some _ => rka.getD k 0
  | none => (rkl.getD k []).getD i.toNat 0
def Inv (B : Bool) (M : Mem) : Prop := ∀ c i, kW B (kd c) = true → (rlo (kd c) i ≤ M c i ∧ M c i ≤ rhi (kd c) i) ∧ (rk (kd c) i ≠ 0 → kd (M c i) = rk (kd c) i)
theorem Inv.g {B : Bool} {M : Mem} (h : Inv B M) {c : Int} {kn : Nat} (hk : kd c = kn) (hw : kW B kn = true) (i : Int) {a b : Int} (ha : rlo kn i = a) (hb : rhi kn i = b) : a ≤ M c i ∧ M c i ≤ b := by
  have := (h c i (by rw [hk]; exact hw)).1
  rw [hk, ha, hb] at this; exact this
theorem Inv.r {B : Bool} {M : Mem} (h : Inv B M) {c : Int} {kn k' : Nat} (hk : kd c = kn) (hw : kW B kn = true) (i : Int) (hr : rk kn i = k') (hne : (k' == 0) = false) : kd (M c i) = k' := by
  have := (h c i (by rw [hk]; exact hw)).2
  rw [hk, hr] at this
  exact this (by simpa using hne)
theorem Inv.u {B : Bool} {M N : Mem} (h : Inv B M) {c i v : Int} (hN : N = mu M c i v) {kn : Nat} (hk : kd c = kn) {a b : Int} (ha : rlo kn i = a) (hb : rhi kn i = b) (hr : rk kn i = 0) (hv : a ≤ v ∧ v ≤ b) : Inv B N := by
  subst hN
  intro d j hd
  by_cases hc : d = c ∧ j = i
  · obtain ⟨rfl, rfl⟩ := hc
    rw [mu_s, hk, ha, hb, hr]
    exact ⟨hv, fun q => absurd rfl q⟩
  · have e : mu M c i v d j = M d j := if_neg hc
    rw [e]; exact h d j hd
def fin (L : List (Nat × Int)) (k : Nat) (i : Int) : Bool := L.any (fun p => p.1 == k && (p.2 == -1 || p.2 == i))
def Fr (L : List (Nat × Int)) (M N : Mem) : Prop := ∀ c i, fin L (kd c) i = false → N c i = M c i
theorem Fr.rf (L : List (Nat × Int)) (M : Mem) : Fr L M M := fun _ _ _ => rfl
theorem Fr.u {L : List (Nat × Int)} {M N N' : Mem} (h : Fr L M N) {c i v : Int} (hN : N' = mu N c i v) {kn : Nat} (hk : kd c = kn) (hf : fin L kn i = true) : Fr L M N' := by
  subst hN
  intro d j hd
  by_cases hc : d = c ∧ j = i
  · obtain ⟨rfl, rfl⟩ := hc
    rw [hk, hf] at hd; cases hd
  · have e : mu N c i v d j = N d j := if_neg hc
    rw [e]; exact h d j hd
theorem fin_sub {L L' : List (Nat × Int)} (hs : L'.all (fun p => L.contains p) = true) {k : Nat} {i : Int} (h : fin L k i = false) : fin L' k i = false := by
  cases hx : fin L' k i with
  | false => rfl
  | true =>
    unfold fin at hx h
    obtain ⟨p, hp, h1⟩ := List.any_eq_true.mp hx
    have h2 := List.all_eq_true.mp hs p hp
    have h3 : p ∈ L := by simpa using h2
    have h4 := List.any_eq_false.mp h p h3
    exact absurd h1 h4
theorem Fr.c {L L' : List (Nat × Int)} {M N N' : Mem} (h : Fr L M N) (h' : Fr L' N N') (hs : L'.all (fun p => L.contains p) = true) : Fr L M N' := fun c i hf => (h' c i (fin_sub hs hf)).trans (h c i hf)
theorem Fr.e {L : List (Nat × Int)} {M N : Mem} (h : Fr L M N) {c : Int} {kn : Nat} (hk : kd c = kn) (i : Int) (hf : fin L kn i = false) : N c i = M c i := h c i (by rw [hk]; exact hf)
/-! bits -/
theorem zb_nn {x : Int32} {n : Nat} (h : x.toBitVec.toNat = n) (hn : n < 2147483648) : x.toInt = n := by
  have h1 : x.toInt = x.toBitVec.toInt := rfl
  rw [h1, BitVec.toInt_eq_toNat_of_lt (by omega), h]
theorem zb_of {a : Int} (h : 0 ≤ a ∧ a ≤ 2147483647) : (Int32.ofInt a).toBitVec.toNat = a.toNat := by
  have h1 : (Int32.ofInt a).toBitVec = BitVec.ofInt 32 a := rfl
  rw [h1, BitVec.toNat_ofInt]
  congr 1
  omega
theorem zor_lt {a b : Int} (n : Nat) (hn : n ≤ 31) (ha : 0 ≤ a ∧ a < (2 ^ n : Nat)) (hb : 0 ≤ b ∧ b < (2 ^ n : Nat)) : 0 ≤ zor a b ∧ zor a b < (2 ^ n : Nat) := by
  have hp : (2 ^ n : Nat) ≤ 2 ^ 31 := Nat.pow_le_pow_right (by omega) hn
  have h1 : (Int32.ofInt a ||| Int32.ofInt b).toBitVec.toNat < 2 ^ n := by
    rw [Int32.toBitVec_or, BitVec.toNat_or, zb_of ⟨ha.1, by omega⟩, zb_of ⟨hb.1, by omega⟩]
    exact Nat.or_lt_two_pow (by omega) (by omega)
  have h2 := zb_nn (x := Int32.ofInt a ||| Int32.ofInt b) rfl (by omega)
  unfold zor; omega
theorem zshl_c {a : Int} (k : Nat) (hk : k < 31) (ha : 0 ≤ a ∧ a * (2 ^ k : Nat) ≤ 2147483647) : zshl a k = a * (2 ^ k : Nat) := by
  have hp : 0 < (2 ^ k : Nat) := Nat.two_pow_pos k
  have ha2 : a ≤ 2147483647 := by
    have h3 : a * 1 ≤ a * (2 ^ k : Nat) := Int.mul_le_mul_of_nonneg_left (by omega) ha.1
    omega
  have e1 : (Int32.ofInt (k : Int) &&& 31).toBitVec.toNat = k := by
    rw [Int32.toBitVec_and, BitVec.toNat_and, zb_of ⟨by omega, by omega⟩]
    show (k : Int).toNat &&& 31 = k
    rw [show (k : Int).toNat = k by omega, show (31 : Nat) = 2 ^ 5 - 1 by rfl, Nat.and_two_pow_sub_one_eq_mod]
    omega
  have h3 : a.toNat * 2 ^ k < 2147483648 := by
    have : ((a.toNat * 2 ^ k : Nat) : Int) = a * (2 ^ k : Nat) := by
      rw [Int.natCast_mul, Int.toNat_of_nonneg ha.1]
    omega
  have h1 : (Int32.ofInt a <<< (Int32.ofInt (k : Int) &&& 31)).toBitVec.toNat = a.toNat * 2 ^ k := by
    rw [Int32.toBitVec_shiftLeft, BitVec.shiftLeft_eq', BitVec.toNat_shiftLeft, zb_of ⟨ha.1, ha2⟩]
    have e2 : ((Int32.ofInt (k : Int) &&& 31).toBitVec.smod 32).toNat = k := by
      rw [BitVec.smod_eq, BitVec.msb_eq_decide, e1]
      have : (decide (2 ^ (32 - 1) ≤ k)) = false := by simp; omega
      rw [this]
      show (BitVec.umod _ _).toNat = k
      rw [BitVec.umod_eq, BitVec.toNat_umod, e1]
      show k % 32 = k
      omega
    rw [e2, Nat.shiftLeft_eq]
    omega
  have h2 := zb_nn h1 (by omega)
  unfold zshl
  rw [h2, Int.natCast_mul, Int.toNat_of_nonneg ha.1]
