/-! what stands beside the worlds: the texts' constants and the JDK's statics -/
def kS (G : KG) (A : Nat → Prop) (U : State) : Prop := vk_S kSn kSlen kSbyt G.2.2.2.1 G.2.2.2.2 A U U.heap ∧ (∀ i, i < kSn → vk_R (kSown i) (kSidx i) (kStx i) (G.2.2.2.1 i) U) ∧ va_Z "java/lang/String" "COMPACT_STRINGS" "Z" (.int 1) A U U.heap ∧ va_Zq "jdk/internal/util/Preconditions" "SIOOBE_FORMATTER" "Ljava/util/function/BiFunction;" A U U.heap
theorem kS.to {G : KG} {A B : Nat → Prop} {s U : State} {H : Heap} {locs : List Loc} (h : kS G A s) (hS : va_S A s.heap H locs) (hAB : ∀ q, B q → A q) (hU : U.heap = H) (hW : s.WarmedH U.vm) : kS G B U := by
  subst hU
  refine ⟨((h.1.kept hS.2.1).moved hW.alike).narrow hAB, fun i hi => (h.2.1 i hi).warm hW, ((h.2.2.1.kept hS.2.1).moved hW.alike).narrow hAB, ?_⟩
  rcases h.2.2.2 with h | ⟨t, h⟩
  · exact Or.inl (((h.kept hS.2.1).moved hW.alike).narrow hAB)
  · exact Or.inr ⟨t, ((h.kept hS.2.1).moved hW.alike).narrow hAB⟩
theorem kS.blind {G : KG} {A : Nat → Prop} {U : State} {g : JFrame} {mk : MethodId} {a : Array Value} (h : kS G A U) : kS G A (U.calling g mk a) := by
  refine ⟨h.1.moved (u := U) (U := U.calling g mk a) (Vm.Alike.refl U.vm), fun i hi => vk_R.same (u := U) (U := U.calling g mk a) rfl (h.2.1 i hi), h.2.2.1.moved (u := U) (U := U.calling g mk a) (Vm.Alike.refl U.vm), ?_⟩
  rcases h.2.2.2 with h | ⟨t, h⟩
  · exact Or.inl (h.moved (u := U) (U := U.calling g mk a) (Vm.Alike.refl U.vm))
  · exact Or.inr ⟨t, h.moved (u := U) (U := U.calling g mk a) (Vm.Alike.refl U.vm)⟩
def wb (B : Bool) : Nat := if B then 163 else 0
def wn (B : Bool) : Nat := if B then 31 else 163
abbrev wD (B : Bool) (G : KG) (M : Mem) : va_W := wd (wb B) (wn B) G M
def kW (B : Bool) (k : Nat) : Bool := if B then Nat.ble 64 k else (Nat.ble 1 k && Nat.ble k 63)
theorem kW_all : ∀ j, j < 194 → (kW false (kdl.getD j 0) = true → j < 163) ∧ (kW true (kdl.getD j 0) = true → 163 ≤ j) := by decide +kernel
theorem kd_lt {c : Int} (h : ¬ kd c = 0) : 0 ≤ c ∧ c < 194 := by
  unfold kd at h
  split at h
  · exact absurd rfl h
  · refine ⟨by omega, ?_⟩
    by_cases hc : c.toNat < kdl.length
    · have : kdl.length = 194 := rfl
      omega
    · rw [List.getD_eq_getElem?_getD, List.getElem?_eq_none (Nat.le_of_not_lt hc)] at h; exact absurd rfl h
theorem kin_of {B : Bool} {c : Int} {k : Nat} (hk : kd c = k) (hw : kW B k = true) : kin (wb B) (wn B) c := by
  have h0 : ¬ kd c = 0 := by
    rw [hk]; rintro rfl
    cases B <;> simp [kW] at hw
  obtain ⟨h1, h2⟩ := kd_lt h0
  have h3 := kW_all c.toNat (by omega)
  have h4 : kdl.getD c.toNat 0 = k := by
    rw [← hk]; unfold kd; rw [if_neg (by omega)]
  rw [h4] at h3
  unfold kin wb wn
  cases B with
  | false => have := h3.1 hw; simp only [Bool.false_eq_true, if_false]; omega
  | true => have := h3.2 hw; simp only [if_true]; omega
/-- the start of a contract -/
def kP (B : Bool) (G : KG) (av : List Value) (M : Mem) (sz : Nat) : Array Value → State → Prop := fun v U => jy_P av G.2.2.1 vwCl (jT G.1) jW (wD B G M) sz v U ∧ kS G (va_A (wD B G M) sz) U
theorem kP_blind {B : Bool} {G : KG} {av : List Value} {M : Mem} {sz : Nat} : FrameBlind (kP B G av M sz) := fun a U g mk q => ⟨jy_blind a U g mk q.1, q.2.blind⟩
abbrev KX : Type := Program × Launch × Env × Room × State × MethodId × Array Value × List Frame × Method × Code × (State → Prop) × Nat × (Nat → Prop)
abbrev xp (X : KX) := X.1
abbrev xl (X : KX) := X.2.1
abbrev xe (X : KX) := X.2.2.1
abbrev xR (X : KX) := X.2.2.2.1
abbrev xs (X : KX) := X.2.2.2.2.1
abbrev xm (X : KX) := X.2.2.2.2.2.1
abbrev xa (X : KX) := X.2.2.2.2.2.2.1
abbrev xb (X : KX) := X.2.2.2.2.2.2.2.1
abbrev xh (X : KX) := X.2.2.2.2.2.2.2.2.1
abbrev xc (X : KX) := X.2.2.2.2.2.2.2.2.2.1
abbrev xQ (X : KX) := X.2.2.2.2.2.2.2.2.2.2.1
abbrev xn (X : KX) := X.2.2.2.2.2.2.2.2.2.2.2.1
abbrev xA (X : KX) := X.2.2.2.2.2.2.2.2.2.2.2.2
def KJ (B : Bool) (G : KG) (X : KX) (M : Mem) (pc : Nat) (lo : List (Option Value)) (st : List Value) : Prop :=
  JJ (xp X) (xl X) (xe X) (xR X) (xs X) (xm X) (xa X) (xb X) (xh X) (xc X) (xQ X) (xn X) G.2.2.1 vwCl (xA X) (va_S (xA X) (xs X).heap) 0 0 (wD B G M) pc (kl lo) st
def kF (B : Bool) (G : KG) (X : KX) (l : Launch) (cc : ByteArray) (own : String) (nL : Nat) (ret : Option FieldType) (R : Room) : Prop :=
  jy_F (xp X) (xm X) (xc X) cc (xn X) (xs X) (xa X) TT own G.2.2.1 vwCl (jT G.1) ∧ jy_N jW (xs X) ∧ (∀ q, (xs X).heap.size ≤ q → xA X q) ∧ kS G (xA X) (xs X) ∧ (xh X).sig.returnType = ret ∧ (xh X).locks = false ∧ xn X = nL ∧ xR X = R ∧ xl X = l
/-! ends of contracts -/
def kQi (B : Bool) (G : KG) (A : Nat → Prop) (Q : Int → Mem → Prop) : Array Value → State → Outcome → State → Prop := va_Qi (fun (r : Int32) (N : Mem) => ∃ z, r = Int32.ofInt z ∧ Q z N) (jy_B G.2.2.1 vwCl A (fun N => wD B G N)) A
def kQl (B : Bool) (G : KG) (A : Nat → Prop) (Q : Int → Mem → Prop) : Array Value → State → Outcome → State → Prop := va_Ql (fun (r : Int64) (N : Mem) => ∃ z, r = Int64.ofInt z ∧ Q z N) (jy_B G.2.2.1 vwCl A (fun N => wD B G N)) A
def kQv (B : Bool) (G : KG) (A : Nat → Prop) (Q : Mem → Prop) : Array Value → State → Outcome → State → Prop := va_Qv (fun (N : Mem) => Q N) (jy_B G.2.2.1 vwCl A (fun N => wD B G N)) A
def kQr (B : Bool) (G : KG) (A : Nat → Prop) (Q : Int → Mem → Prop) : Array Value → State → Outcome → State → Prop := va_Qr (fun (u : Int × Mem) => Q u.1 u.2) (fun u a t => a = G.2.1 u.1 ∧ jy_B G.2.2.1 vwCl A (fun N => wD B G N) u.2 t) A
abbrev kwA (B : Bool) (G : KG) (M : Mem) (sz : Nat) : Nat → Prop := va_A (wD B G M) sz
def KC (B : Bool) (G : KG) (l : Launch) (y : MethodName) (cc : ByteArray) (nL : Nat) (ret : Option FieldType) (rm : Nat × Nat) (av : List Value) (M : Mem) (QQ : (Nat → Prop) → Array Value → State → Outcome → State → Prop) : Prop :=
  ∀ sz, Met l y (Cond.code y cc nL ret :: TT) { frames := rm.1, cells := 0, slots := 0, locals := rm.2 } (kP B G av M sz) (QQ (kwA B G M sz)) 0 0 (kwA B G M sz)
/-- a contract out of a walk -/
theorem kx_met {B : Bool} {G : KG} {l : Launch} {y : MethodName} {cc : ByteArray} {nL : Nat} {ret : Option FieldType} {rm : Nat × Nat} {av : List Value} {M : Mem} {QQ : (Nat → Prop) → Array Value → State → Outcome → State → Prop} {lo : List (Option Value)} (hy : plainName y.cls = true) (hlen : (lg_sl av).length ≤ nL) (hlv : lv_args 0 av = kl lo)
    (body : ∀ X : KX, kF B G X l cc y.cls nL ret { frames := rm.1, cells := 0, slots := 0, locals := rm.2 } → xQ X = MQ (xb X) (QQ (xA X)) (xa X) (xs X) 0 0 (xA X) → KJ B G X M 0 lo []) : KC B G l y cc nL ret rm av M QQ := by
  intro sz
  refine Met.ofW (cc := cc) (maxL := nL) (ret := ret) hy rfl ?_
  intro p e s m args below meth c s₁ B' hml hv
  obtain ⟨⟨rfl, hsz, hP, hK, hD0, hN⟩, hSS⟩ := hv
  have hl := lv_entry av (n := nL) hlen
  rw [lg_entry_eq]
  rw [hlv] at hl
  have hts := atoms_spec (ws := Cond.code y cc nL ret :: TT) B'.pre
  exact body (p, l, e, { frames := rm.1, cells := 0, slots := 0, locals := rm.2 }, s, m, av.toArray, below, meth, c, _, nL, kwA B G M sz) ⟨⟨⟨B'.exec, B'.bytes, hml, findClass_of_methodNamed B'.named, fun w hw => hts w (List.mem_cons_of_mem _ hw)⟩, hK⟩, hN, (fun q h => Or.inr (by rw [← hsz]; exact h)), hSS, B'.returns, B'.notSynchronized, rfl, rfl, rfl⟩ rfl s.heap [] _ hP hD0.self va_S.rf hl
/-! static facts of fields and calls, by a class's own pool -/
def kCd (ci : Nat) (C : String) (T : u_T) (N : Nat) (tyf : Nat → FieldType) : Prop := vwCl[ci]? = some (C, T, N) ∧ (∀ w ∈ u_ws C T N, w ∈ TT) ∧ (∀ k, k < N → parseFieldDescriptor (T k).2.2.1 = some (tyf k)) ∧ (∀ a, a < N → ∀ b, b < N → a ≠ b → (T a).2.1 ≠ (T b).2.1)
def kFd (own : String) (index ci i : Nat) (ty : FieldType) : Prop := ∃ C T N tyf, kCd ci C T N tyf ∧ i < N ∧ Cond.fieldLink own index (T i).1 (T i).2.1 (T i).2.2.1 ∈ TT ∧ tyf i = ty
/-- a field that may be written -/
def kFw (own : String) (index ci i : Nat) (ty : FieldType) : Prop := ∃ C T N tyf, kCd ci C T N tyf ∧ i < N ∧ Cond.fieldLink own index (T i).1 (T i).2.1 (T i).2.2.1 ∈ TT ∧ tyf i = ty ∧ (T i).2.2.2 = false
def kck (k ci i t : Nat) : Bool := (match kA k with | none => true | some _ => false) && (kC k == ci) && Nat.blt i (kN k) && (kT k i == t)
theorem kck_spec {k ci i t : Nat} (h : kck k ci i t = true) : kA k = none ∧ kC k = ci ∧ i < kN k ∧ kT k i = t := by
  unfold kck at h
  simp only [Bool.and_eq_true, beq_iff_eq] at h
  obtain ⟨⟨⟨h1, h2⟩, h3⟩, h4⟩ := h
  refine ⟨?_, h2, by simpa [Nat.blt_eq] using h3, h4⟩
  cases hA : kA k with
  | none => rfl
  | some _ => rw [hA] at h1; cases h1
def kVd (own : String) (index : Nat) (y : MethodName) (cc : ByteArray) (nL : Nat) (ret : Option FieldType) (n : Nat) : Prop := (y.cls ≠ "java/lang/invoke/MethodHandle" ∧ y.cls ≠ "java/lang/invoke/VarHandle" ∧ (parseMethodDescriptor y.desc).map (fun d => d.parameters.length) = some n) ∧ Cond.initialized y.cls ∈ TT ∧ Cond.methodLink own index y ∈ TT ∧ Cond.instanceMethod y ∈ TT ∧ Cond.selects y.cls y y ∈ TT ∧ Cond.code y cc nL ret ∈ TT
def kSd (own : String) (index : Nat) (y : MethodName) (cc : ByteArray) (nL : Nat) (ret : Option FieldType) (n : Nat) : Prop := (y.cls ≠ "java/lang/invoke/MethodHandle" ∧ y.cls ≠ "java/lang/invoke/VarHandle" ∧ (parseMethodDescriptor y.desc).map (fun d => d.parameters.length) = some n) ∧ Cond.initialized y.cls ∈ TT ∧ Cond.methodLink own index y ∈ TT ∧ Cond.static y ∈ TT ∧ Cond.code y cc nL ret ∈ TT
/-! numbers -/
theorem z_add (a b : Int) : Int32.ofInt a + Int32.ofInt b = Int32.ofInt (a + b) := by rw [Int32.ofInt_add]
theorem z_sub (a b : Int) : Int32.ofInt a - Int32.ofInt b = Int32.ofInt (a - b) := by rw [Int32.ofInt_sub]
theorem z_mul (a b : Int) : Int32.ofInt a * Int32.ofInt b = Int32.ofInt (a * b) := by rw [Int32.ofInt_mul]
theorem z_to {a : Int} (h : -2147483648 ≤ a ∧ a ≤ 2147483647) : (Int32.ofInt a).toInt = a := Int32.toInt_ofInt_of_le (by have := h.1; simpa using this) (by have := h.2; simp; omega)
theorem z_eq {a b : Int} (ha : -2147483648 ≤ a ∧ a ≤ 2147483647) (hb : -2147483648 ≤ b ∧ b ≤ 2147483647) : Int32.ofInt a = Int32.ofInt b ↔ a = b := ⟨fun h => by rw [← z_to ha, ← z_to hb, h], fun h => by rw [h]⟩
theorem z_lt {a b : Int} (ha : -2147483648 ≤ a ∧ a ≤ 2147483647) (hb : -2147483648 ≤ b ∧ b ≤ 2147483647) : Int32.ofInt a < Int32.ofInt b ↔ a < b := by rw [Int32.lt_iff_toInt_lt, z_to ha, z_to hb]
theorem z_le {a b : Int} (ha : -2147483648 ≤ a ∧ a ≤ 2147483647) (hb : -2147483648 ≤ b ∧ b ≤ 2147483647) : Int32.ofInt a ≤ Int32.ofInt b ↔ a ≤ b := by rw [Int32.le_iff_toInt_le, z_to ha, z_to hb]
theorem z_in {z : Int} {n : Nat} (h0 : 0 ≤ z) (h1 : z < n) (hn : n < 2147483648) : vp_in (Int32.ofInt z) n := vp_in_iff.mpr (by rw [z_to ⟨by omega, by omega⟩]; exact ⟨h0, h1⟩)
theorem z_nat {z : Int} (h : 0 ≤ z ∧ z ≤ 2147483647) : (Int32.ofInt z).toNatClampNeg = z.toNat := by
  rw [Int32.toNatClampNeg, z_to ⟨by omega, by omega⟩]
/-! bits -/
def zand (a b : Int) : Int := (Int32.ofInt a &&& Int32.ofInt b).toInt
def zor (a b : Int) : Int := (Int32.ofInt a ||| Int32.ofInt b).toInt
def zxor (a b : Int) : Int := (Int32.ofInt a ^^^ Int32.ofInt b).toInt
def zshl (a b : Int) : Int := (Int32.ofInt a <<< (Int32.ofInt b &&& 31)).toInt
def zshr (a b : Int) : Int := (Int32.ofInt a >>> (Int32.ofInt b &&& 31)).toInt
def w32 (a : Int) : Int := (Int32.ofInt a).toInt
def w64 (a : Int) : Int := (Int64.ofInt a).toInt
theorem z_ofto (x : Int32) : Int32.ofInt x.toInt = x := Int32.ofInt_toInt x
theorem z_rng (x : Int32) : -2147483648 ≤ x.toInt ∧ x.toInt ≤ 2147483647 := ⟨by have := Int32.le_toInt x; simpa using this, by have := Int32.toInt_lt x; simp at this; omega⟩
theorem zl_ofto (x : Int64) : Int64.ofInt x.toInt = x := Int64.ofInt_toInt x
theorem zl_rng (x : Int64) : -9223372036854775808 ≤ x.toInt ∧ x.toInt ≤ 9223372036854775807 := ⟨by have := Int64.le_toInt x; simpa using this, by have := Int64.toInt_lt x; simp at this; omega⟩
theorem zl_to {a : Int} (h : -9223372036854775808 ≤ a ∧ a ≤ 9223372036854775807) : (Int64.ofInt a).toInt = a := Int64.toInt_ofInt_of_le (by have := h.1; simpa using this) (by have := h.2; simp; omega)
