/-! relations: the class's own sums -/
theorem ctm_all : ∀ u : Nat, u < 74 → ∀ v : Nat, v < 8 → ∀ i : Nat, i < 9 → u &&& 73 = u → (u * v).testBit i = (u.testBit (3 * (i / 3)) && v.testBit (i % 3)) := by decide +kernel
theorem ctm {x y : Int} (hx : sm9 x) (hy : sm9 y) (r : Nat) (hr : r < 3) : sm9 (zand (zshr x (r : Int)) 73 * zand (zshr y ((3 * r : Nat) : Int)) 7) ∧ ∀ a b : Nat, a < 3 → b < 3 → tb (zand (zshr x (r : Int)) 73 * zand (zshr y ((3 * r : Nat) : Int)) 7) (3 * a + b) = (tb x (3 * a + r) && tb y (3 * r + b)) := by
  have hx2 := hx.2
  have hy2 := hy.2
  have x1 : x.toNat >>> r ≤ x.toNat := Nat.shiftRight_le _ _
  have y1 : y.toNat >>> (3 * r) ≤ y.toNat := Nat.shiftRight_le _ _
  have u1 : x.toNat >>> r &&& 73 ≤ 73 := Nat.and_le_right
  have v1 : y.toNat >>> (3 * r) &&& 7 ≤ 7 := Nat.and_le_right
  have eu : zand (zshr x (r : Int)) 73 = ((x.toNat >>> r &&& 73 : Nat) : Int) := by
    rw [zshr_nat r (by omega) hx.big, zand_nat ⟨Int.natCast_nonneg _, by omega⟩ ⟨by omega, by omega⟩, Int.toNat_natCast]; rfl
  have ev : zand (zshr y ((3 * r : Nat) : Int)) 7 = ((y.toNat >>> (3 * r) &&& 7 : Nat) : Int) := by
    rw [zshr_nat (3 * r) (by omega) hy.big, zand_nat ⟨Int.natCast_nonneg _, by omega⟩ ⟨by omega, by omega⟩, Int.toNat_natCast]; rfl
  have em : zand (zshr x (r : Int)) 73 * zand (zshr y ((3 * r : Nat) : Int)) 7 = (((x.toNat >>> r &&& 73) * (y.toNat >>> (3 * r) &&& 7) : Nat) : Int) := by
    rw [eu, ev, Int.natCast_mul]
  have hm : (x.toNat >>> r &&& 73) * (y.toNat >>> (3 * r) &&& 7) ≤ 73 * 7 := Nat.mul_le_mul u1 v1
  rw [em]
  refine ⟨⟨Int.natCast_nonneg _, by omega⟩, fun a b ha hb => ?_⟩
  unfold tb
  have idem : (x.toNat >>> r &&& 73) &&& 73 = x.toNat >>> r &&& 73 := by rw [Nat.and_assoc, Nat.and_self]
  have w := ctm_all (x.toNat >>> r &&& 73) (by omega) (y.toNat >>> (3 * r) &&& 7) (by omega) (3 * a + b) (by omega) idem
  have ea : Nat.testBit 73 (3 * a) = true := by
    rcases (by omega : a = 0 ∨ a = 1 ∨ a = 2) with e | e | e <;> subst e <;> rfl
  have eb : Nat.testBit 7 b = true := by
    rcases (by omega : b = 0 ∨ b = 1 ∨ b = 2) with e | e | e <;> subst e <;> rfl
  rw [Int.toNat_natCast, w, show (3 * a + b) / 3 = a by omega, show (3 * a + b) % 3 = b by omega, Nat.testBit_and, Nat.testBit_and, Nat.testBit_shiftRight, Nat.testBit_shiftRight, ea, eb, Bool.and_true, Bool.and_true, Nat.add_comm r (3 * a)]
theorem zcomp {x y : Int} (hx : sm9 x) (hy : sm9 y) : zor (zor (zand x 73 * zand y 7) (zand (zshr x 1) 73 * zand (zshr y 3) 7)) (zand (zshr x 2) 73 * zand (zshr y 6) 7) = thnZ x y 9 := by
  have ex : zshr x ((0 : Nat) : Int) = x := zshr_0 ⟨by have := hx.1; omega, by have := hx.2; omega⟩
  have ey : zshr y ((3 * 0 : Nat) : Int) = y := zshr_0 ⟨by have := hy.1; omega, by have := hy.2; omega⟩
  obtain ⟨s0, t0⟩ := ctm hx hy 0 (by decide)
  obtain ⟨s1, t1⟩ := ctm hx hy 1 (by decide)
  obtain ⟨s2, t2⟩ := ctm hx hy 2 (by decide)
  rw [ex, ey] at s0 t0
  rw [show ((1 : Nat) : Int) = 1 from rfl, show ((3 * 1 : Nat) : Int) = 3 from rfl] at s1 t1
  rw [show ((2 : Nat) : Int) = 2 from rfl, show ((3 * 2 : Nat) : Int) = 6 from rfl] at s2 t2
  have s01 := s0.zor s1
  refine RR_ext (s01.zor s2) (hx.thn hy) (fun a b ha hb => ?_)
  have k0 := t0 a b ha hb
  have k1 := t1 a b ha hb
  have k2 := t2 a b ha hb
  rw [RR_thn hx hy ha hb]
  have h2 : RR (zor (zor (zand x 73 * zand y 7) (zand (zshr x 1) 73 * zand (zshr y 3) 7)) (zand (zshr x 2) 73 * zand (zshr y 6) 7)) a b ↔ ((tb x (3 * a + 0) && tb y (3 * 0 + b)) || (tb x (3 * a + 1) && tb y (3 * 1 + b)) || (tb x (3 * a + 2) && tb y (3 * 2 + b))) = true := by
    unfold RR
    rw [tb_zor s01.big s2.big, tb_zor s0.big s1.big, k0]
    rw [show tb (zand (zshr x 1) 73 * zand (zshr y 3) 7) (3 * a + b) = (tb x (3 * a + 1) && tb y (3 * 1 + b)) from k1, show tb (zand (zshr x 2) 73 * zand (zshr y 6) 7) (3 * a + b) = (tb x (3 * a + 2) && tb y (3 * 2 + b)) from k2]
  rw [h2, Bool.or_eq_true, Bool.or_eq_true, Bool.and_eq_true, Bool.and_eq_true, Bool.and_eq_true]
  constructor
  · rintro ((h | h) | h)
    · exact ⟨0, by decide, h.1, h.2⟩
    · exact ⟨1, by decide, h.1, h.2⟩
    · exact ⟨2, by decide, h.1, h.2⟩
  · rintro ⟨r, hr, h, h'⟩
    rcases (by omega : r = 0 ∨ r = 1 ∨ r = 2) with e | e | e <;> subst e
    · exact Or.inl (Or.inl ⟨h, h'⟩)
    · exact Or.inl (Or.inr ⟨h, h'⟩)
    · exact Or.inr ⟨h, h'⟩
/-- where a relation leads from a set -/
def zmn (s r : Int) : Nat → Int
  | 0 => 0
  | n + 1 => if zand (zshr s (n : Int)) 1 = 1 then zor (zmn s r n) (zand (zshr r ((3 * n : Nat) : Int)) 7) else zmn s r n
def zmZ (s r n : Int) : Int := zmn s r n.toNat
theorem zm_z {s r i : Int} (h : i = 0) : (0 : Int) = zmZ s r i := by subst h; rfl
theorem zm_at {s r i n v : Int} (hp : v = zmZ s r i) (h : i = n) : v = zmZ s r n := h ▸ hp
theorem zm_b {s r q i n v : Int} (hp : v = zmZ s r i) (hi : i = q) (h0 : 0 ≤ q) (hc : zand (zshr s q) 1 = 1) (hn : n = q + 1) : zor v (zand (zshr r (3 * q)) 7) = zmZ s r n := by
  subst hi hn hp
  unfold zmZ
  rw [show (i + 1).toNat = i.toNat + 1 by omega, zmn, show ((i.toNat : Nat) : Int) = i by omega, show ((3 * i.toNat : Nat) : Int) = 3 * i by omega, if_pos hc]
theorem zm_a {s r q i n v : Int} (hp : v = zmZ s r i) (hi : i = q) (h0 : 0 ≤ q) (hc : ¬ zand (zshr s q) 1 = 1) (hn : n = q + 1) : v = zmZ s r n := by
  subst hi hn hp
  unfold zmZ
  rw [show (i + 1).toNat = i.toNat + 1 by omega, zmn, show ((i.toNat : Nat) : Int) = i by omega, if_neg hc]
theorem zor_0l {v : Int} (h : 0 ≤ v ∧ v ≤ 2147483647) : zor 0 v = v := by
  rw [zor_nat ⟨by decide, by decide⟩ h, show (0 : Int).toNat = 0 from rfl, Nat.zero_or]; omega
theorem zor_0r {v : Int} (h : 0 ≤ v ∧ v ≤ 2147483647) : zor v 0 = v := by
  rw [zor_nat h ⟨by decide, by decide⟩, show (0 : Int).toNat = 0 from rfl, Nat.or_zero]; omega
theorem zmn_s (s r : Int) : ∀ n : Nat, (0 ≤ zmn s r n ∧ zmn s r n < 8) ∧ zmn s r (n + 1) = zor (zmn s r n) (zand (zshr s (n : Int)) 1 * zand (zshr r ((3 * n : Nat) : Int)) 7) := by
  have step : ∀ n : Nat, (0 ≤ zmn s r n ∧ zmn s r n < 8) → zmn s r (n + 1) = zor (zmn s r n) (zand (zshr s (n : Int)) 1 * zand (zshr r ((3 * n : Nat) : Int)) 7) := fun n h => by
    have b := zand_r (a := zshr s (n : Int)) (b := 1) (by decide)
    rw [zmn]
    by_cases e : zand (zshr s (n : Int)) 1 = 1
    · rw [if_pos e, e, Int.one_mul]
    · rw [if_neg e, show zand (zshr s (n : Int)) 1 = 0 by omega, Int.zero_mul, zor_0r ⟨h.1, by omega⟩]
  intro n
  induction n with
  | zero =>
    have z : 0 ≤ zmn s r 0 ∧ zmn s r 0 < 8 := by show (0 : Int) ≤ 0 ∧ (0 : Int) < 8; decide
    exact ⟨z, step 0 z⟩
  | succ n ih =>
    have c := zand_r (a := zshr r ((3 * n : Nat) : Int)) (b := 7) (by decide)
    have h : 0 ≤ zmn s r (n + 1) ∧ zmn s r (n + 1) < 8 := by
      rw [zmn]
      split
      · exact zor_lt 3 (by decide) ih.1 ⟨c.1, by omega⟩
      · exact ih.1
    exact ⟨h, step (n + 1) h⟩
theorem zimg {s r : Int} (hs : 0 ≤ s ∧ s ≤ 7) (hr : sm9 r) : zor (zor (zand s 1 * zand r 7) (zand (zshr s 1) 1 * zand (zshr r 3) 7)) (zand (zshr s 2) 1 * zand (zshr r 6) 7) = zmZ s r 3 := by
  have es : zshr s ((0 : Nat) : Int) = s := zshr_0 ⟨by omega, by omega⟩
  have er : zshr r ((3 * 0 : Nat) : Int) = r := zshr_0 ⟨by have := hr.1; omega, by have := hr.2; omega⟩
  have a0 := (zmn_s s r 0).2
  have a1 := (zmn_s s r 1).2
  have a2 := (zmn_s s r 2).2
  have r1 := (zmn_s s r 1).1
  rw [es, er] at a0
  have b := zand_r (a := s) (b := 1) (by decide)
  have c := zand_r (a := r) (b := 7) (by decide)
  have p : 0 ≤ zand s 1 * zand r 7 ∧ zand s 1 * zand r 7 ≤ 2147483647 := by
    rcases (by omega : zand s 1 = 0 ∨ zand s 1 = 1) with e | e
    · rw [e, Int.zero_mul]; decide
    · rw [e, Int.one_mul]; omega
  have a0' : zmn s r 1 = zand s 1 * zand r 7 := by
    have h : zmn s r (0 + 1) = zor 0 (zand s 1 * zand r 7) := a0
    rw [zor_0l p] at h
    exact h
  have e : zmZ s r 3 = zmn s r 3 := rfl
  have a2' : zmn s r 3 = zor (zmn s r 2) (zand (zshr s 2) 1 * zand (zshr r 6) 7) := a2
  have a1' : zmn s r 2 = zor (zmn s r 1) (zand (zshr s 1) 1 * zand (zshr r 3) 7) := a1
  rw [e, a2', a1', a0']
theorem sme_4 {q i n v : Int} (hp : v = smeZ i) (hi : i = q) (h0 : 0 ≤ q) (hn : n = q + 1) : zor v (zshl 1 (4 * q)) = smeZ n := by
  have h := sme_b hp hi h0 hn
  rw [show 3 * q + q = 4 * q by omega] at h
  exact h
/-! what leads over a call and its return -/
def zov (K : Int → Int) (c l x : Int) : Nat → Int
  | 0 => 0
  | g + 1 => zor (zov K c l x g) (thnZ (thnZ (K (3 * c + (g : Int))) x 9) (K (3 * l + (g : Int))) 9)
def zovZ (K : Int → Int) (c l x n : Int) : Int := zov K c l x n.toNat
theorem thn_0l {x : Int} (hx : sm9 x) : thnZ 0 x 9 = 0 := RR_ext (sm9.thn ⟨by decide, by decide⟩ hx) ⟨by decide, by decide⟩ (fun a b ha hb => by
  rw [RR_thn ⟨by decide, by decide⟩ hx ha hb]
  unfold RR
  constructor
  · rintro ⟨r, _, h, _⟩
    rw [tb_0] at h; cases h
  · intro h
    rw [tb_0] at h; cases h)
theorem thn_0r {x : Int} (hx : sm9 x) : thnZ x 0 9 = 0 := RR_ext (hx.thn ⟨by decide, by decide⟩) ⟨by decide, by decide⟩ (fun a b ha hb => by
  rw [RR_thn hx ⟨by decide, by decide⟩ ha hb]
  unfold RR
  constructor
  · rintro ⟨r, _, _, h⟩
    rw [tb_0] at h; cases h
  · intro h
    rw [tb_0] at h; cases h)
theorem thn_00 {y : Int} : thnZ 0 y 9 = 0 := by
  have h : ∀ n : Nat, thn 0 y n = 0 := fun n => by
    induction n with
    | zero => rfl
    | succ n ih => rw [thn, zand_0, if_pos rfl, ih]
  exact h 9
theorem zov_z {K : Int → Int} {c l x i : Int} (h : i = 0) : (0 : Int) = zovZ K c l x i := by subst h; rfl
theorem zov_at {K : Int → Int} {c l x i n v : Int} (hp : v = zovZ K c l x i) (h : i = n) : v = zovZ K c l x n := h ▸ hp
theorem zov_b {K : Int → Int} {c l x q i n v t : Int} (hp : v = zovZ K c l x i) (hi : i = q) (h0 : 0 ≤ q) (ht : t = thnZ (thnZ (K (3 * c + q)) x 9) (K (3 * l + q)) 9) (hn : n = q + 1) : zor v t = zovZ K c l x n := by
  subst hi hn hp ht
  unfold zovZ
  rw [show (i + 1).toNat = i.toNat + 1 by omega, zov, show ((i.toNat : Nat) : Int) = i by omega]
theorem zov_a {K : Int → Int} {c l x q i n v : Int} (hp : v = zovZ K c l x i) (hi : i = q) (h0 : 0 ≤ q) (hx : sm9 x) (hc : sm9 (K (3 * c + q))) (hv : 0 ≤ v ∧ v ≤ 2147483647) (hz : K (3 * c + q) = 0 ∨ K (3 * l + q) = 0) (hn : n = q + 1) : v = zovZ K c l x n := by
  have h : thnZ (thnZ (K (3 * c + q)) x 9) (K (3 * l + q)) 9 = 0 := by
    rcases hz with e | e
    · rw [e] at hc ⊢
      by_cases z : sm9 (K (3 * l + q))
      · rw [thn_0l hx, thn_0l z]
      · rw [thn_0l hx]; exact thn_00
    · rw [e]; exact thn_0r (hc.thn hx)
  have w := zov_b (t := 0) hp hi h0 h.symm hn
  rw [zor_0r hv] at w
  exact w
