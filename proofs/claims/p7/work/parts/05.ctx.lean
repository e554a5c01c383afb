/-! what stands beside the worlds: the texts' constants and the JDK's statics -/
def kS (G : KG) (A : Nat → Prop) (U : State) : Prop := vk_S kSn kSlen kSbyt G.2.2.2.1 G.2.2.2.2 A U U.heap ∧ (∀ i, i < kSn → vk_R (kSown i) (kSidx i) (kStx i) (G.2.2.2.1 i) U) ∧ va_Z "java/lang/String" "COMPACT_STRINGS" "Z" (.int 1) A U U.heap ∧ va_Zq "jdk/internal/util/Preconditions" "SIOOBE_FORMATTER" "Ljava/util/function/BiFunction;" A U U.heap
theorem kS.to {G : KG} {A B : Nat → Prop} {s U : State} {H : Heap} {locs : List Loc} (h : kS G A s) (hS : va_S A s.heap H locs) (hAB : ∀ q, B q → A q) (hU : U.heap = H) (hW : s.WarmedH U.vm) : kS G B U := by
  subst hU
  refine ⟨((h.1.kept hS.2.1).moved hW.alike).narrow hAB, fun i hi => (h.2.1 i hi).warm hW, ((h.2.2.1.kept hS.2.1).moved hW.alike).narrow hAB, ?_⟩
  rcases h.2.2.2 with h | ⟨t, h⟩
  · exact Or.inl (((h.kept hS.2.1).moved hW.alike).narrow hAB)
  · exact Or.inr ⟨t, ((h.kept hS.2.1).moved hW.alike).narrow hAB⟩
def wb (B : Bool) : Nat := if B then 163 else 0
def wn (B : Bool) : Nat := if B then 31 else 163
abbrev wD (B : Bool) (G : KG) (M : Mem) : va_W := wd (wb B) (wn B) G M
def kW (B : Bool) (k : Nat) : Bool := if B then Nat.ble 64 k else (Nat.ble 1 k && Nat.ble k 63)
theorem kd_lt {c : Int} (h : ¬ kd c = 0) : 0 ≤ c ∧ c < 194 := by
  unfold kd at h
  split at h
  · exact absurd rfl h
  · refine ⟨by omega, ?_⟩
    by_cases hc : c.toNat < kdl.length
    · have : kdl.length = 194 := rfl
      omega
    · rw [List.getD_eq_getElem?_getD, List.getElem?_eq_none (Nat.le_of_not_lt hc)] at h; exact absurd rfl h
abbrev KX : Type := Program × Launch × Env × Room × State × MethodId × Array Value × List Frame × Method × Code × (State → Prop) × Nat × (Nat → Prop)
abbrev xp (X : KX) := X.1
abbrev xl (X : KX) := X.2.1
abbrev xe (X : KX) := X.2.2.1
abbrev xR (X : KX) := X.2.2.2.1
abbrev xs (X : KX) := X.2.2.2.2.1
abbrev xm (X : KX) := X.2.2.2.2.2.1
abbrev xa (X : KX) := X.2.2.2.2.2.2.1
abbrev xb (X : KX) := X.2.2.2.2.2.2.2.1
abbrev xh (X : KX) := X.2.2.2.2.2.2.2.2.1
abbrev xc (X : KX) := X.2.2.2.2.2.2.2.2.2.1
abbrev xQ (X : KX) := X.2.2.2.2.2.2.2.2.2.2.1
abbrev xn (X : KX) := X.2.2.2.2.2.2.2.2.2.2.2.1
abbrev xA (X : KX) := X.2.2.2.2.2.2.2.2.2.2.2.2
def kF (B : Bool) (G : KG) (X : KX) (l : Launch) (cc : ByteArray) (own : String) (nL : Nat) (ret : Option FieldType) (R : Room) : Prop :=
  jy_F (xp X) (xm X) (xc X) cc (xn X) (xs X) (xa X) TT own G.2.2.1 vwCl (jT G.1) ∧ jy_N jW (xs X) ∧ (∀ q, (xs X).heap.size ≤ q → xA X q) ∧ kS G (xA X) (xs X) ∧ (xh X).sig.returnType = ret ∧ (xh X).locks = false ∧ xn X = nL ∧ xR X = R ∧ xl X = l
/-! numbers -/
theorem z_add (a b : Int) : Int32.ofInt a + Int32.ofInt b = Int32.ofInt (a + b) := by rw [Int32.ofInt_add]
theorem z_sub (a b : Int) : Int32.ofInt a - Int32.ofInt b = Int32.ofInt (a - b) := by rw [Int32.ofInt_sub]
theorem z_to {a : Int} (h : -2147483648 ≤ a ∧ a ≤ 2147483647) : (Int32.ofInt a).toInt = a := Int32.toInt_ofInt_of_le (by have := h.1; simpa using this) (by have := h.2; simp; omega)
theorem z_lt {a b : Int} (ha : -2147483648 ≤ a ∧ a ≤ 2147483647) (hb : -2147483648 ≤ b ∧ b ≤ 2147483647) : Int32.ofInt a < Int32.ofInt b ↔ a < b := by rw [Int32.lt_iff_toInt_lt, z_to ha, z_to hb]
theorem z_in {z : Int} {n : Nat} (h0 : 0 ≤ z) (h1 : z < n) (hn : n < 2147483648) : vp_in (Int32.ofInt z) n := vp_in_iff.mpr (by rw [z_to ⟨by omega, by omega⟩]; exact ⟨h0, h1⟩)
theorem z_nat {z : Int} (h : 0 ≤ z ∧ z ≤ 2147483647) : (Int32.ofInt z).toNatClampNeg = z.toNat := by
  rw [Int32.toNatClampNeg, z_to ⟨by omega, by omega⟩]
/-! bits -/
def zand (a b : Int) : Int := (Int32.ofInt a &&& Int32.ofInt b).toInt
def zor (a b : Int) : Int := (Int32.ofInt a ||| Int32.ofInt b).toInt
def zxor (a b : Int) : Int := (Int32.ofInt a ^^^ Int32.ofInt b).toInt
def zshl (a b : Int) : Int := (Int32.ofInt a <<< (Int32.ofInt b &&& 31)).toInt
def zshr (a b : Int) : Int := (Int32.ofInt a >>> (Int32.ofInt b &&& 31)).toInt
def w32 (a : Int) : Int := (Int32.ofInt a).toInt
theorem z_ofto (x : Int32) : Int32.ofInt x.toInt = x := Int32.ofInt_toInt x
theorem z_rng (x : Int32) : -2147483648 ≤ x.toInt ∧ x.toInt ≤ 2147483647 := ⟨by have := Int32.le_toInt x; simpa using this, by have := Int32.toInt_lt x; simp at this; omega⟩
