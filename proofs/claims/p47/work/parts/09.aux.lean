theorem mul_rng {a b : Int} (x y : Int) (h1 : 0 ≤ a ∧ a ≤ x) (h2 : 0 ≤ b ∧ b ≤ y) {z : Int} (hz : x * y = z) : 0 ≤ a * b ∧ a * b ≤ z := by
  subst hz
  exact ⟨Int.mul_nonneg h1.1 h2.1, Int.mul_le_mul h1.2 h2.2 h2.1 (by omega)⟩
theorem zshl_1 {b : Int} (n : Nat) (hn : n ≤ 30) (hb : 0 ≤ b ∧ b ≤ n) : 1 ≤ zshl 1 b ∧ zshl 1 b ≤ (2 ^ n : Nat) := by
  have e : b = ((b.toNat : Nat) : Int) := by omega
  have h3 : (2 ^ b.toNat : Nat) ≤ 2 ^ n := Nat.pow_le_pow_right (by omega) (by omega)
  have h4 : (2 ^ n : Nat) ≤ 2 ^ 30 := Nat.pow_le_pow_right (by omega) hn
  have h5 : 0 < (2 ^ b.toNat : Nat) := Nat.two_pow_pos _
  rw [e, zshl_c b.toNat (by omega) ⟨by omega, by rw [Int.one_mul]; omega⟩, Int.one_mul]
  omega
/-! a piece of an array copied into an array -/
def mcp (M : Mem) (a sp c dp n : Int) : Mem := fun d j => if d = c ∧ dp ≤ j ∧ j < dp + n then M a (sp + (j - dp)) else M d j
theorem mcp_o {M : Mem} {a sp c dp n d j : Int} (h : ¬ d = c) : mcp M a sp c dp n d j = M d j := if_neg (fun q => h q.1)
theorem mcp_k {M : Mem} {a sp c dp n d j : Int} {k k' : Nat} (h : kd d = k) (h' : kd c = k') (hn : (k == k') = false) : mcp M a sp c dp n d j = M d j := mcp_o (fun e => by subst e; rw [h] at h'; subst h'; simp at hn)
theorem Inv.cp {B : Bool} {M N : Mem} (h : Inv B M) {a sp c dp n : Int} (hN : N = mcp M a sp c dp n) {ka kc : Nat} (hka : kd a = ka) (hkc : kd c = kc) (hw : kW B ka = true) {x y : Int} (h1 : ∀ i, rlo ka i = x) (h2 : ∀ i, rlo kc i = x) (h3 : ∀ i, rhi ka i = y) (h4 : ∀ i, rhi kc i = y) (h5 : ∀ i, rk kc i = 0) : Inv B N := by
  subst hN
  intro d j hd
  by_cases hc : d = c ∧ dp ≤ j ∧ j < dp + n
  · have e : mcp M a sp c dp n d j = M a (sp + (j - dp)) := if_pos hc
    obtain ⟨rfl, -⟩ := hc
    have := (h a (sp + (j - dp)) (by rw [hka]; exact hw)).1
    rw [hka, h1, h3] at this
    rw [e, hkc, h2, h4, h5]
    exact ⟨this, fun q => absurd rfl q⟩
  · have e : mcp M a sp c dp n d j = M d j := if_neg hc
    rw [e]; exact h d j hd
theorem Fr.cp {L : List (Nat × Int)} {M N N' : Mem} (h : Fr L M N) {a sp c dp n : Int} (hN : N' = mcp N a sp c dp n) {kn : Nat} (hk : kd c = kn) (hf : ∀ i, fin L kn i = true) : Fr L M N' := by
  subst hN
  intro d j hd
  by_cases hc : d = c
  · subst hc; rw [hk, hf] at hd; cases hd
  · rw [mcp_o hc]; exact h d j hd
section KXC
variable {B : Bool} {G : KG} {X : KX} {l : Launch} {cc : ByteArray} {own : String} {nL : Nat} {ret : Option FieldType} {R : Room} {M : Mem} {pc : Nat} {lo : List (Option Value)} {st : List Value}
theorem kx_copyi (pc' : Nat) (F : kF B G X l cc own nL ret R) {index : Nat} {a c sp dp n : Int} {ka kc m0 m1 : Nat} (hka : kd a = ka) (hwa : kW B ka = true) (hAa : kA ka = some (0, m0)) (hkc : kd c = kc) (hwc : kW B kc = true) (hAc : kA kc = some (0, m1)) (hdg : decode cc pc = .ok (.invokestatic index, 3)) (w1 : Cond.methodLink own index arraycopyName ∈ TT) (w2 : Cond.native arraycopyName ∈ TT) (w3 : Cond.static arraycopyName ∈ TT) (w4 : Cond.initialized "java/lang/System" ∈ TT) (h0 : 0 ≤ sp ∧ 0 ≤ dp ∧ 0 ≤ n ∧ sp + n ≤ m0 ∧ dp + n ≤ m1) (hm : m0 < 2147483648 ∧ m1 < 2147483648) (hfr : 1 ≤ R.frames) (hlo : (st.map fun v => v.category).sum + (nativeFrameWords "java/lang/System" "arraycopy" 5 + 11) ≤ R.locals) (hp : pc + 3 = pc') (k : ∀ N : Mem, N = mcp M a sp c dp n → KJ B G X N pc' lo st) : KJ B G X M pc lo (vI n :: vI dp :: vR G c :: vI sp :: vR G a :: st) := by
  have ha := wd_at (G := G) (M := M) (kin_of (B := B) hka hwa)
  rw [hka, ke_arr hAa] at ha
  have hb := kin_of (B := B) hkc hwc
  have hat := wd_at (G := G) (M := M) hb
  rw [hkc, ke_arr hAc] at hat
  have hws := wd_set (G := G) (M := M) (N := mcp M a sp c dp n) (E := .inl (G.1.2.1, m1, .inl (fun (j : Nat) => Int32.ofInt (mcp M a sp c dp n c j)))) hb (by rw [hkc, ke_arr hAc]; rfl) (fun d hd => funext fun j => mcp_o hd)
  have e1 := z_nat (z := sp) ⟨by omega, by omega⟩
  have e2 := z_nat (z := dp) ⟨by omega, by omega⟩
  have e3 := z_nat (z := n) ⟨by omega, by omega⟩
  have hneg : ∀ z : Int, 0 ≤ z ∧ z ≤ 2147483647 → ¬ Int32.ofInt z < 0 := fun z hz h => by
    have := (z_lt (a := z) (b := 0) ⟨by omega, by omega⟩ ⟨by omega, by omega⟩).mp h
    omega
  refine jy_copyi F.1 _ _ 1 1 ha hat rfl rfl hdg w1 w2 w3 w4 (hneg _ (by omega)) (hneg _ (by omega)) (hneg _ (by omega)) (by rw [e1, e3]; omega) (by rw [e2, e3]; omega) (by rw [F.2.2.2.2.2.2.2.1]; exact hfr) (by rw [F.2.2.2.2.2.2.2.1]; exact hlo) (g2 := fun (j : Nat) => Int32.ofInt (mcp M a sp c dp n c j)) ?_ hws hp (k _ rfl)
  funext j
  rw [e1, e2, e3]
  unfold va_cpy mcp
  by_cases hj : dp.toNat ≤ j ∧ j < dp.toNat + n.toNat
  · rw [if_pos hj, if_pos ⟨rfl, by omega, by omega⟩]
    show Int32.ofInt (M a ((sp.toNat + (j - dp.toNat) : Nat) : Int)) = _
    rw [show ((sp.toNat + (j - dp.toNat) : Nat) : Int) = sp + ((j : Int) - dp) by omega]
  · rw [if_neg hj, if_neg (fun q => hj ⟨by omega, by omega⟩)]
theorem kx_copyl (pc' : Nat) (F : kF B G X l cc own nL ret R) {index : Nat} {a c sp dp n : Int} {ka kc m0 m1 : Nat} (hka : kd a = ka) (hwa : kW B ka = true) (hAa : kA ka = some (2, m0)) (hkc : kd c = kc) (hwc : kW B kc = true) (hAc : kA kc = some (2, m1)) (hdg : decode cc pc = .ok (.invokestatic index, 3)) (w1 : Cond.methodLink own index arraycopyName ∈ TT) (w2 : Cond.native arraycopyName ∈ TT) (w3 : Cond.static arraycopyName ∈ TT) (w4 : Cond.initialized "java/lang/System" ∈ TT) (h0 : 0 ≤ sp ∧ 0 ≤ dp ∧ 0 ≤ n ∧ sp + n ≤ m0 ∧ dp + n ≤ m1) (hm : m0 < 2147483648 ∧ m1 < 2147483648) (hfr : 1 ≤ R.frames) (hlo : (st.map fun v => v.category).sum + (nativeFrameWords "java/lang/System" "arraycopy" 5 + 11) ≤ R.locals) (hp : pc + 3 = pc') (k : ∀ N : Mem, N = mcp M a sp c dp n → KJ B G X N pc' lo st) : KJ B G X M pc lo (vI n :: vI dp :: vR G c :: vI sp :: vR G a :: st) := by
  have ha := wd_at (G := G) (M := M) (kin_of (B := B) hka hwa)
  rw [hka, ke_arr hAa] at ha
  have hb := kin_of (B := B) hkc hwc
  have hat := wd_at (G := G) (M := M) hb
  rw [hkc, ke_arr hAc] at hat
  have hws := wd_set (G := G) (M := M) (N := mcp M a sp c dp n) (E := .inl (G.1.2.2.1, m1, .inr (.inl (fun (j : Nat) => Int64.ofInt (mcp M a sp c dp n c j))))) hb (by rw [hkc, ke_arr hAc]; rfl) (fun d hd => funext fun j => mcp_o hd)
  have e1 := z_nat (z := sp) ⟨by omega, by omega⟩
  have e2 := z_nat (z := dp) ⟨by omega, by omega⟩
  have e3 := z_nat (z := n) ⟨by omega, by omega⟩
  have hneg : ∀ z : Int, 0 ≤ z ∧ z ≤ 2147483647 → ¬ Int32.ofInt z < 0 := fun z hz h => by
    have := (z_lt (a := z) (b := 0) ⟨by omega, by omega⟩ ⟨by omega, by omega⟩).mp h
    omega
  refine jy_copyl F.1 _ _ 2 2 ha hat rfl rfl hdg w1 w2 w3 w4 (hneg _ (by omega)) (hneg _ (by omega)) (hneg _ (by omega)) (by rw [e1, e3]; omega) (by rw [e2, e3]; omega) (by rw [F.2.2.2.2.2.2.2.1]; exact hfr) (by rw [F.2.2.2.2.2.2.2.1]; exact hlo) (g2 := fun (j : Nat) => Int64.ofInt (mcp M a sp c dp n c j)) ?_ hws hp (k _ rfl)
  funext j
  rw [e1, e2, e3]
  unfold va_cpy mcp
  by_cases hj : dp.toNat ≤ j ∧ j < dp.toNat + n.toNat
  · rw [if_pos hj, if_pos ⟨rfl, by omega, by omega⟩]
    show Int64.ofInt (M a ((sp.toNat + (j - dp.toNat) : Nat) : Int)) = _
    rw [show ((sp.toNat + (j - dp.toNat) : Nat) : Int) = sp + ((j : Int) - dp) by omega]
  · rw [if_neg hj, if_neg (fun q => hj ⟨by omega, by omega⟩)]
def kSNd (own : String) (index : Nat) (y : MethodName) (host : String) (cc : ByteArray) (nL : Nat) (ret : Option FieldType) (n : Nat) : Prop := (y.cls ≠ "java/lang/invoke/MethodHandle" ∧ y.cls ≠ "java/lang/invoke/VarHandle" ∧ (parseMethodDescriptor y.desc).map (fun d => d.parameters.length) = some n) ∧ Cond.initialized y.cls ∈ TT ∧ Cond.methodLinkNest own index y host ∈ jW ∧ Cond.static y ∈ TT ∧ Cond.code y cc nL ret ∈ TT
theorem kx_SNi (pc' : Nat) (F : kF B G X l cc own nL ret R) {y : MethodName} {host : String} {bytes : ByteArray} {mL n index : Nat} {rt : Option FieldType} {rm : Nat × Nat} {As st0 : List Value} {Q : Int → Mem → Prop} (vd : kSNd own index y host bytes mL rt n) (hM : KC B G l y bytes mL rt rm As M (fun A => kQi B G A Q)) (hR : rm.1 + 1 ≤ R.frames ∧ 8 + (mL + 11) + rm.2 ≤ R.locals) (hn : As.length = n) (hst : st0 = As.reverse ++ st) (hroom : (st.map fun v => v.category).sum ≤ 8) (hdg : decode cc pc = .ok (.invokestatic index, 3)) (hp : pc + 3 = pc') (kk : ∀ (z : Int) (N : Mem), Q z N → KJ B G X N pc' lo (vI z :: st)) : KJ B G X M pc lo st0 := by
  subst hp
  obtain ⟨d0, d1, d2, d3, d5⟩ := vd
  have cw := jy_cSN (R := xR X) F.1 (tt_in d5) rfl d0 d1 (F.2.1 _ d2).2 d3 (rm := { frames := rm.1, cells := 0, slots := 0, locals := rm.2 }) (mc := 0) (ms := 0) rfl rfl (by rw [F.2.2.2.2.2.2.2.1]; exact hR)
  exact fun H locs ls hP hD hZ hl => va_calli (va_runSN F.1.1 (by have := hM H.size; rw [← F.2.2.2.2.2.2.2.2] at this; exact this) cw ⟨kP_blind, kx_pre F hP hD hZ⟩ rfl hn hl.1 hst (lv_room hroom) hdg ⟨Nat.zero_le _, Nat.zero_le _⟩) hZ (fun q _ h => va_free hD hZ F.2.2.1 (List.range (wn B)) (wd_all ..) q h) (va_free hD hZ F.2.2.1 (List.range (wn B)) (wd_all ..)) (fun r u t H1 locs1 ht hvm hpost hB hz hkk hS1 => by
    obtain ⟨z, rfl, hq⟩ := hpost
    obtain ⟨b1, b2⟩ := hB
    rw [ht] at b1
    have hD2 : va_D (xA X) (wD B G u) := ⟨b2.1, fun k q hq => va_free hD hZ F.2.2.1 (List.range (wn B)) (wd_all ..) _ (b2.2 k q hq)⟩
    exact kk z u hq H1 locs1 ls b1 hD2 hS1 hl)
theorem kx_aast (pc' : Nat) (F : kF B G X l cc own nL ret R) {c z v : Int} {kn kv m : Nat} (hv : kd v = kv) (hwv : kW B kv = true) (hAv : kA kv = none) (hcv : vwCl[kC kv]?.map (·.1) = some "NestedChecker$Setting") (hk : kd c = kn) (hw : kW B kn = true) (hA : kA kn = some (3, m)) (h0 : 0 ≤ z ∧ z < m) (hm : m < 2147483648) (hdg : decode cc pc = .ok (.aastore, 1)) (hp : pc + 1 = pc') (k : ∀ N : Mem, N = mu M c z v → KJ B G X N pc' lo st) : KJ B G X M pc lo (vR G v :: vI z :: vR G c :: st) := by
  have hb := kin_of (B := B) hk hw
  have hat := wd_at (G := G) (M := M) hb
  rw [hk, ke_arr hA] at hat
  have hav := wd_at (G := G) (M := M) (kin_of (B := B) hv hwv)
  rw [hv, ke_obj hAv] at hav
  obtain ⟨⟨C, T, N⟩, hcl, hcc⟩ : ∃ q, vwCl[kC kv]? = some q ∧ q.1 = "NestedChecker$Setting" := by
    cases hx : vwCl[kC kv]? with
    | none => rw [hx] at hcv; cases hcv
    | some q => rw [hx] at hcv; exact ⟨q, rfl, by simpa using hcv⟩
  have hws := wd_set (G := G) (M := M) (N := mu M c z v) (E := .inl (G.1.2.2.2, m, .inr (.inr (.inr (.inr (fun (j : Nat) => some (G.2.1 (mu M c z v c j)))))))) hb (by rw [hk, ke_arr hA]; rfl) (fun a ha => funext fun j => mu_c ha)
  refine jy_astq F.1 _ 3 _ _ hat (by subst hcc; rfl) hav hcl hdg (z_in h0.1 h0.2 hm) (g := fun (j : Nat) => some (G.2.1 (mu M c z v c j))) ?_ hws hp (k _ rfl)
  funext j
  rw [z_nat (z := z) ⟨h0.1, by omega⟩]
  unfold va_up
  by_cases hj : j = z.toNat
  · subst hj; rw [if_pos rfl]; congr 2; rw [Int.toNat_of_nonneg h0.1, mu_s]
  · rw [if_neg hj]; show some (G.2.1 (M c (j : Int))) = _; rw [mu_i (j := (j : Int)) (i := z) (by omega)]
end KXC
