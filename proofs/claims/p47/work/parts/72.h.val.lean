/-! what trays hold -/
def zcut (v s : Int) : Int := if s = 0 then ((Int32.ofInt (w32 v)).toInt8).toInt else if s = 1 then ((Int32.ofInt (w32 v)).toInt16).toInt else if s = 2 then w32 v else v
def zvt (f : Int → Int) (b n : Int) : Int → Int := fun j => if b ≤ j ∧ j < b + n then 0 else f j
def zvw (f : Int → Int) (k v : Int) : Int → Int := fun j => if j = k then v else f j
def zvp (f : Int → Int) (s d n : Int) : Int → Int := fun j => if d ≤ j ∧ j < d + n then f (s + (j - d)) else f j
def zdn (d : Int) : Int := (d * 3287 + 11519) % 65536
def zds : Nat → Int → Int
  | 0, s => s
  | n + 1, s => zdn (zds n s)
def zdi (i s : Int) : Int := zds i.toNat s
theorem zdi_s {i s : Int} (h : 0 ≤ i) : zdi (i + 1) s = zdn (zdi i s) := by
  unfold zdi; rw [show (i + 1).toNat = i.toNat + 1 by omega]; rfl
def zdr (d n : Int) : Int := zdn d / 8 % n
def zvs (f : Int → Int) (b n seed l s : Int) : Int → Int := fun j => if b ≤ j ∧ j < b + n then zcut (zdr (zdi (j - b) seed) l) s else f j
theorem zand_k {x : Int} (h : 0 ≤ x ∧ x ≤ 2147483647) : zand x 65535 = x % 65536 := by
  rw [zand_nat h ⟨by decide, by decide⟩]
  have e : x.toNat &&& (65535 : Int).toNat = x.toNat % 65536 := Nat.and_two_pow_sub_one_eq_mod x.toNat 16
  rw [e]; omega
theorem mcp_f {M : Mem} {c s d n : Int} : mcp M c s c d n c = zvp (M c) s d n := funext (fun j => by
  unfold zvp
  by_cases h : d ≤ j ∧ j < d + n
  · rw [if_pos h]; exact mcp_s h
  · rw [if_neg h]; exact if_neg (fun q => h q.2))
theorem UP.f {M N : Mem} {c a v : Int} (h : UP M N c a v) : N c = zvw (M c) a v := funext h
def zVT (N M : Mem) (c b i : Int) : Prop := ∀ j, N c j = if b ≤ j ∧ j < b + i then 0 else M c j
theorem zVT.nil {N M : Mem} {c b : Int} (e : N c = M c) : zVT N M c b 0 := fun j => by rw [if_neg (by omega), e]
theorem zVT.step {N N' M : Mem} {c b i i' k : Int} (h : zVT N M c b i) (hi : 0 ≤ i) (e : i' = i + 1) (hk : k = b + i) (hN : N' = mu N c k 0) : zVT N' M c b i' := fun j => by
  subst e hk
  rw [hN, mu_at]
  by_cases z : j = b + i
  · rw [if_pos z, if_pos (by omega)]
  · rw [if_neg z, h j]
    by_cases w : b ≤ j ∧ j < b + i
    · rw [if_pos w, if_pos (by omega)]
    · rw [if_neg w, if_neg (by omega)]
theorem zVT.f {N M : Mem} {c b i n : Int} (h : zVT N M c b i) (e : i = n) : N c = zvt (M c) b n := by subst e; exact funext h
def zPI (N M : Mem) (c s d n i a b : Int) : Prop := (a < b → ∀ j, N c j = if d + n - i ≤ j ∧ j < d + n then M c (s + (j - d)) else M c j) ∧ (¬ a < b → ∀ j, N c j = if d ≤ j ∧ j < d + i then M c (s + (j - d)) else M c j)
theorem zPI.nil {N M : Mem} {c s d n a b : Int} (e : N c = M c) : zPI N M c s d n 0 a b := ⟨fun _ j => by rw [if_neg (by omega), e], fun _ j => by rw [if_neg (by omega), e]⟩
theorem zPI.sb {N N' M : Mem} {c s d n i i' a b k k2 : Int} (h : zPI N M c s d n i a b) (ha : a < b) (hi : 0 ≤ i ∧ i < n) (e : i' = i + 1) (hk : k = d + n - 1 - i) (hl : k2 = s + n - 1 - i) (ap : s < d ∨ s + n ≤ d ∨ d + n ≤ s) (hN : N' = mu N c k (N c k2)) : zPI N' M c s d n i' a b := by
  subst e hk hl
  refine ⟨fun _ j => ?_, fun q => absurd ha q⟩
  rw [hN, mu_at]
  by_cases z : j = d + n - 1 - i
  · rw [if_pos z, if_pos (by omega), h.1 ha, if_neg (by omega), z, show s + (d + n - 1 - i - d) = s + n - 1 - i by omega]
  · rw [if_neg z, h.1 ha j]
    by_cases w : d + n - i ≤ j ∧ j < d + n
    · rw [if_pos w, if_pos (by omega)]
    · rw [if_neg w, if_neg (by omega)]
theorem zPI.sf {N N' M : Mem} {c s d n i i' a b k k2 : Int} (h : zPI N M c s d n i a b) (ha : ¬ a < b) (hi : 0 ≤ i ∧ i < n) (e : i' = i + 1) (hk : k = d + i) (hl : k2 = s + i) (ap : d ≤ s ∨ s + n ≤ d ∨ d + n ≤ s) (hN : N' = mu N c k (N c k2)) : zPI N' M c s d n i' a b := by
  subst e hk hl
  refine ⟨fun q => absurd q ha, fun _ j => ?_⟩
  rw [hN, mu_at]
  by_cases z : j = d + i
  · rw [if_pos z, if_pos (by omega), h.2 ha, if_neg (by omega), z, show s + (d + i - d) = s + i by omega]
  · rw [if_neg z, h.2 ha j]
    by_cases w : d ≤ j ∧ j < d + i
    · rw [if_pos w, if_pos (by omega)]
    · rw [if_neg w, if_neg (by omega)]
theorem zPI.f {N M : Mem} {c s d n i a b : Int} (h : zPI N M c s d n i a b) (e : i = n) : N c = zvp (M c) s d n := funext (fun j => by
  subst e
  unfold zvp
  by_cases z : d ≤ j ∧ j < d + i
  · rw [if_pos z]
    by_cases q : a < b
    · rw [h.1 q j, if_pos (by omega)]
    · rw [h.2 q j, if_pos z]
  · rw [if_neg z]
    by_cases q : a < b
    · rw [h.1 q j, if_neg (by omega)]
    · rw [h.2 q j, if_neg z])
def zSI (N M : Mem) (v b i seed l s d : Int) : Prop := d = zdi i seed ∧ ∀ j, N v j = if b ≤ j ∧ j < b + i then zcut (zdr (zdi (j - b) seed) l) s else M v j
theorem zSI.nil {N M : Mem} {v b seed l s d : Int} (e : N v = M v) (hd : d = seed) : zSI N M v b 0 seed l s d := ⟨hd, fun j => by rw [if_neg (by omega), e]⟩
theorem zSI.step {N N' M : Mem} {v b i i' k seed l s d d' x : Int} (h : zSI N M v b i seed l s d) (hi : 0 ≤ i) (e : i' = i + 1) (hk : k = b + i) (u : ∀ j, N' v j = if j = k then x else N v j) (hx : x = zcut (zdr d l) s) (hd : d' = zdn d) : zSI N' M v b i' seed l s d' := by
  obtain ⟨h1, h2⟩ := h
  subst e hk
  refine ⟨by rw [hd, zdi_s hi, h1], fun j => ?_⟩
  rw [u j]
  by_cases z : j = b + i
  · rw [if_pos z, if_pos (by omega), hx, z, show b + i - b = i by omega, h1]
  · rw [if_neg z, h2 j]
    by_cases w : b ≤ j ∧ j < b + i
    · rw [if_pos w, if_pos (by omega)]
    · rw [if_neg w, if_neg (by omega)]
theorem zSI.f {N M : Mem} {v b i n seed l s d : Int} (h : zSI N M v b i seed l s d) (e : i = n) : N v = zvs (M v) b n seed l s := by subst e; exact funext h.2
def zSPk (a1 a2 a3 p l : Int) : Prop := 0 ≤ a1 ∧ a1 ≤ 3 ∧ 0 ≤ a2 ∧ a2 ≤ 20 ∧ 0 ≤ a3 ∧ a3 ≤ 9999 ∧ ¬ p = -1 ∧ a2 ≤ p ∧ (0 < l ∨ a2 = 0)
def zSM (f g : Int → Int) (a1 a2 a3 p l s r : Int) : Prop := (r = 1 ∧ zSPk a1 a2 a3 p l ∧ g = zvs f (60 * a1) a2 a3 l s) ∨ (r = 0 ∧ ¬ zSPk a1 a2 a3 p l ∧ g = f)
theorem zSM.u {f g g' : Int → Int} {a1 a2 a3 p l s r r' : Int} (h : zSM f g a1 a2 a3 p l s r) (h' : zSM f g' a1 a2 a3 p l s r') : r = r' ∧ g = g' := by
  rcases h with ⟨a, b, c⟩ | ⟨a, b, c⟩ <;> rcases h' with ⟨a', b', c'⟩ | ⟨a', b', c'⟩
  · exact ⟨a.trans a'.symm, c.trans c'.symm⟩
  · exact absurd b b'
  · exact absurd b' b
  · exact ⟨a.trans a'.symm, c.trans c'.symm⟩
/-- one row where a call is done, the same one where it is refused -/
def zV2 (f g h : Int → Int) (r : Int) : Prop := (r = 1 ∧ g = h) ∨ (r = 0 ∧ g = f)
theorem zV2.u {f g g' h : Int → Int} {r r' : Int} (a : zV2 f g h r) (b : zV2 f g' h r') (e : r = r') : g = g' := by
  rcases a with ⟨x, y⟩ | ⟨x, y⟩ <;> rcases b with ⟨x', y'⟩ | ⟨x', y'⟩
  · exact y.trans y'.symm
  · omega
  · omega
  · exact y.trans y'.symm
def zRD (f : Int → Int) (a1 a2 p r : Int) : Prop := ((0 ≤ a1 ∧ a1 ≤ 3 ∧ 0 ≤ a2 ∧ a2 < p) ∧ r = f (60 * a1 + a2)) ∨ (¬ (0 ≤ a1 ∧ a1 ≤ 3 ∧ 0 ≤ a2 ∧ a2 < p) ∧ r = -1)
theorem zRD.u {f : Int → Int} {a1 a2 p r r' : Int} (h : zRD f a1 a2 p r) (h' : zRD f a1 a2 p r') : r = r' := by
  rcases h with ⟨a, b⟩ | ⟨a, b⟩ <;> rcases h' with ⟨a', b'⟩ | ⟨a', b'⟩
  · exact b.trans b'.symm
  · exact absurd a a'
  · exact absurd a' a
  · exact b.trans b'.symm
