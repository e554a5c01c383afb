section KXR
variable {B : Bool} {G : KG} {X : KX} {l : Launch} {cc : ByteArray} {own : String} {nL : Nat} {ret : Option FieldType} {R : Room} {M : Mem} {pc : Nat} {lo : List (Option Value)} {st : List Value}
theorem kx_iconst (pc' : Nat) (F : kF B G X l cc own nL ret R) {z : Int} (hdg : decode cc pc = .ok (.iconst z, 1)) (hp : pc + 1 = pc') (k : KJ B G X M pc' lo (vI z :: st)) : KJ B G X M pc lo st := jy_iconst F.1 hdg rfl hp k
theorem kx_bipush (pc' : Nat) (F : kF B G X l cc own nL ret R) {z : Int} (hdg : decode cc pc = .ok (.bipush z, 2)) (hv : (Int8.ofInt z).toInt32 = Int32.ofInt z) (hp : pc + 2 = pc') (k : KJ B G X M pc' lo (vI z :: st)) : KJ B G X M pc lo st := jy_bipush F.1 hdg hv hp k
theorem kx_sipush (pc' : Nat) (F : kF B G X l cc own nL ret R) {z : Int} (hdg : decode cc pc = .ok (.sipush z, 3)) (hv : (Int16.ofInt z).toInt32 = Int32.ofInt z) (hp : pc + 3 = pc') (k : KJ B G X M pc' lo (vI z :: st)) : KJ B G X M pc lo st := jy_sipush F.1 hdg hv hp k
theorem kx_lconst (pc' : Nat) (F : kF B G X l cc own nL ret R) {q : Fin 2} {z : Int} (hdg : decode cc pc = .ok (.lconst q, 1)) (hv : Int64.ofNat (q : Nat) = Int64.ofInt z) (hp : pc + 1 = pc') (k : KJ B G X M pc' lo (vL z :: st)) : KJ B G X M pc lo st := jy_lconst F.1 hdg hv hp k
theorem kx_ldc (pc' : Nat) (F : kF B G X l cc own nL ret R) {index : Nat} {z : Int} (hdg : decode cc pc = .ok (.ldc index, 2)) (hw : Cond.constant own index (Int32.ofInt z) ∈ TT) (hp : pc + 2 = pc') (k : KJ B G X M pc' lo (vI z :: st)) : KJ B G X M pc lo st := jy_ldc F.1 hdg hw hp k
theorem kx_ldcw (pc' : Nat) (F : kF B G X l cc own nL ret R) {index : Nat} {z : Int} (hdg : decode cc pc = .ok (.ldc_w index, 3)) (hw : Cond.constant own index (Int32.ofInt z) ∈ TT) (hp : pc + 3 = pc') (k : KJ B G X M pc' lo (vI z :: st)) : KJ B G X M pc lo st := jy_ldcw F.1 hdg hw hp k
theorem kx_ldc2 (pc' : Nat) (F : kF B G X l cc own nL ret R) {index : Nat} {z : Int} (hdg : decode cc pc = .ok (.ldc2_w index, 3)) (hw : Cond.constantLong own index (Int64.ofInt z) ∈ TT) (hp : pc + 3 = pc') (k : KJ B G X M pc' lo (vL z :: st)) : KJ B G X M pc lo st := jy_ldc2 F.1 hdg hw hp k
theorem kx_iload_n (pc' : Nat) (F : kF B G X l cc own nL ret R) (i : Nat) {q : Fin 4} {x : Int} (hdg : decode cc pc = .ok (.iload_n q, 1)) (hi : (q : Nat) = i) (hq : lo[i]? = some (some (vI x))) (hp : pc + 1 = pc') (k : KJ B G X M pc' lo (vI x :: st)) : KJ B G X M pc lo st := by subst hp; exact fun H locs ls hP hD hZ hl => lv_iload_n F.1.1.1 F.1.1.2.1 hdg hi (kl_at hl hq) (k H locs ls hP hD hZ hl)
theorem kx_iload (pc' : Nat) (F : kF B G X l cc own nL ret R) (i : Nat) {x : Int} (hdg : decode cc pc = .ok (.iload i, 2)) (hq : lo[i]? = some (some (vI x))) (hp : pc + 2 = pc') (k : KJ B G X M pc' lo (vI x :: st)) : KJ B G X M pc lo st := by subst hp; exact fun H locs ls hP hD hZ hl => lv_iload F.1.1.1 F.1.1.2.1 hdg (kl_at hl hq) (k H locs ls hP hD hZ hl)
theorem kx_istore_n (pc' : Nat) (F : kF B G X l cc own nL ret R) (i : Nat) {q : Fin 4} {x : Int} {lo' : List (Option Value)} (hdg : decode cc pc = .ok (.istore_n q, 1)) (hi : (q : Nat) = i) (hn : i < nL) (hpr : kprev lo i = true) (hlo : (lo.set i (some (vI x))) = lo') (hp : pc + 1 = pc') (k : KJ B G X M pc' lo' st) : KJ B G X M pc lo (vI x :: st) := by subst hp; subst hlo; exact fun H locs ls hP hD hZ hl => lv_istore_n F.1.1.1 F.1.1.2.1 hdg hi hl (by rw [F.2.2.2.2.2.2.1]; exact hn) rfl (fun ls' hl' => k H locs ls' hP hD hZ (lv_mono hl' (kl_sto1 hpr)))
theorem kx_istore (pc' : Nat) (F : kF B G X l cc own nL ret R) (i : Nat) {x : Int} {lo' : List (Option Value)} (hdg : decode cc pc = .ok (.istore i, 2)) (hn : i < nL) (hpr : kprev lo i = true) (hlo : (lo.set i (some (vI x))) = lo') (hp : pc + 2 = pc') (k : KJ B G X M pc' lo' st) : KJ B G X M pc lo (vI x :: st) := by subst hp; subst hlo; exact fun H locs ls hP hD hZ hl => lv_istore F.1.1.1 F.1.1.2.1 hdg hl (by rw [F.2.2.2.2.2.2.1]; exact hn) rfl (fun ls' hl' => k H locs ls' hP hD hZ (lv_mono hl' (kl_sto1 hpr)))
theorem kx_lload_n (pc' : Nat) (F : kF B G X l cc own nL ret R) (i : Nat) {q : Fin 4} {x : Int} (hdg : decode cc pc = .ok (.lload_n q, 1)) (hi : (q : Nat) = i) (hq : lo[i]? = some (some (vL x))) (hp : pc + 1 = pc') (k : KJ B G X M pc' lo (vL x :: st)) : KJ B G X M pc lo st := by subst hp; exact fun H locs ls hP hD hZ hl => lv_lload_n F.1.1.1 F.1.1.2.1 hdg hi (kl_at hl hq) (k H locs ls hP hD hZ hl)
theorem kx_lload (pc' : Nat) (F : kF B G X l cc own nL ret R) (i : Nat) {x : Int} (hdg : decode cc pc = .ok (.lload i, 2)) (hq : lo[i]? = some (some (vL x))) (hp : pc + 2 = pc') (k : KJ B G X M pc' lo (vL x :: st)) : KJ B G X M pc lo st := by subst hp; exact fun H locs ls hP hD hZ hl => lv_lload F.1.1.1 F.1.1.2.1 hdg (kl_at hl hq) (k H locs ls hP hD hZ hl)
theorem kx_lstore_n (pc' : Nat) (F : kF B G X l cc own nL ret R) (i : Nat) {q : Fin 4} {x : Int} {lo' : List (Option Value)} (hdg : decode cc pc = .ok (.lstore_n q, 1)) (hi : (q : Nat) = i) (hn : i + 1 < nL) (hpr : kprev lo i = true) (hlo : ((lo.set i (some (vL x))).set (i + 1) none) = lo') (hp : pc + 1 = pc') (k : KJ B G X M pc' lo' st) : KJ B G X M pc lo (vL x :: st) := by subst hp; subst hlo; exact fun H locs ls hP hD hZ hl => lv_lstore_n F.1.1.1 F.1.1.2.1 hdg hi hl (by rw [F.2.2.2.2.2.2.1]; exact hn) rfl (fun ls' hl' => k H locs ls' hP hD hZ (lv_mono hl' (kl_sto2 hpr)))
theorem kx_lstore (pc' : Nat) (F : kF B G X l cc own nL ret R) (i : Nat) {x : Int} {lo' : List (Option Value)} (hdg : decode cc pc = .ok (.lstore i, 2)) (hn : i + 1 < nL) (hpr : kprev lo i = true) (hlo : ((lo.set i (some (vL x))).set (i + 1) none) = lo') (hp : pc + 2 = pc') (k : KJ B G X M pc' lo' st) : KJ B G X M pc lo (vL x :: st) := by subst hp; subst hlo; exact fun H locs ls hP hD hZ hl => lv_lstore F.1.1.1 F.1.1.2.1 hdg hl (by rw [F.2.2.2.2.2.2.1]; exact hn) rfl (fun ls' hl' => k H locs ls' hP hD hZ (lv_mono hl' (kl_sto2 hpr)))
theorem kx_aload_n (pc' : Nat) (F : kF B G X l cc own nL ret R) (i : Nat) {q : Fin 4} {x : Nat} (hdg : decode cc pc = .ok (.aload_n q, 1)) (hi : (q : Nat) = i) (hq : lo[i]? = some (some (.ref x))) (hp : pc + 1 = pc') (k : KJ B G X M pc' lo (.ref x :: st)) : KJ B G X M pc lo st := by subst hp; exact fun H locs ls hP hD hZ hl => lv_aload_n F.1.1.1 F.1.1.2.1 hdg hi (kl_at hl hq) (k H locs ls hP hD hZ hl)
theorem kx_aload (pc' : Nat) (F : kF B G X l cc own nL ret R) (i : Nat) {x : Nat} (hdg : decode cc pc = .ok (.aload i, 2)) (hq : lo[i]? = some (some (.ref x))) (hp : pc + 2 = pc') (k : KJ B G X M pc' lo (.ref x :: st)) : KJ B G X M pc lo st := by subst hp; exact fun H locs ls hP hD hZ hl => lv_aload F.1.1.1 F.1.1.2.1 hdg (kl_at hl hq) (k H locs ls hP hD hZ hl)
theorem kx_astore_n (pc' : Nat) (F : kF B G X l cc own nL ret R) (i : Nat) {q : Fin 4} {x : Nat} {lo' : List (Option Value)} (hdg : decode cc pc = .ok (.astore_n q, 1)) (hi : (q : Nat) = i) (hn : i < nL) (hpr : kprev lo i = true) (hlo : (lo.set i (some (.ref x))) = lo') (hp : pc + 1 = pc') (k : KJ B G X M pc' lo' st) : KJ B G X M pc lo (.ref x :: st) := by subst hp; subst hlo; exact fun H locs ls hP hD hZ hl => lv_astore_n F.1.1.1 F.1.1.2.1 hdg hi hl (by rw [F.2.2.2.2.2.2.1]; exact hn) rfl (fun ls' hl' => k H locs ls' hP hD hZ (lv_mono hl' (kl_sto1 hpr)))
theorem kx_astore (pc' : Nat) (F : kF B G X l cc own nL ret R) (i : Nat) {x : Nat} {lo' : List (Option Value)} (hdg : decode cc pc = .ok (.astore i, 2)) (hn : i < nL) (hpr : kprev lo i = true) (hlo : (lo.set i (some (.ref x))) = lo') (hp : pc + 2 = pc') (k : KJ B G X M pc' lo' st) : KJ B G X M pc lo (.ref x :: st) := by subst hp; subst hlo; exact fun H locs ls hP hD hZ hl => lv_astore F.1.1.1 F.1.1.2.1 hdg hl (by rw [F.2.2.2.2.2.2.1]; exact hn) rfl (fun ls' hl' => k H locs ls' hP hD hZ (lv_mono hl' (kl_sto1 hpr)))
theorem kx_iinc (pc' : Nat) (F : kF B G X l cc own nL ret R) (i : Nat) {d x v : Int} {lo' : List (Option Value)} (hdg : decode cc pc = .ok (.iinc i d, 3)) (hq : lo[i]? = some (some (vI x))) (hv : x + d = v) (hn : i < nL) (hpr : kprev lo i = true) (hlo : (lo.set i (some (vI v))) = lo') (hp : pc + 3 = pc') (k : KJ B G X M pc' lo' st) : KJ B G X M pc lo st := by subst hp; subst hlo; subst hv; obtain ⟨q, hq'⟩ := List.mem_iff_getElem?.mp (kl_mem.mpr hq); exact fun H locs ls hP hD hZ hl => lv_iinc F.1.1.1 F.1.1.2.1 hdg hl hq' (z_add x d) (by rw [F.2.2.2.2.2.2.1]; exact hn) rfl (fun ls' hl' => k H locs ls' hP hD hZ (lv_mono hl' (kl_sto1 hpr)))
theorem kx_iadd (pc' : Nat) (F : kF B G X l cc own nL ret R) {x y v : Int} (hdg : decode cc pc = .ok (.iadd, 1)) (hv : x + y = v) (hp : pc + 1 = pc') (k : KJ B G X M pc' lo (vI v :: st)) : KJ B G X M pc lo (vI y :: vI x :: st) := by subst hv; exact jy_iadd F.1 hdg (z_add x y) hp k
theorem kx_isub (pc' : Nat) (F : kF B G X l cc own nL ret R) {x y v : Int} (hdg : decode cc pc = .ok (.isub, 1)) (hv : x - y = v) (hp : pc + 1 = pc') (k : KJ B G X M pc' lo (vI v :: st)) : KJ B G X M pc lo (vI y :: vI x :: st) := by subst hv; exact jy_isub F.1 hdg (z_sub x y) hp k
theorem kx_imul (pc' : Nat) (F : kF B G X l cc own nL ret R) {x y v : Int} (hdg : decode cc pc = .ok (.imul, 1)) (hv : x * y = v) (hp : pc + 1 = pc') (k : KJ B G X M pc' lo (vI v :: st)) : KJ B G X M pc lo (vI y :: vI x :: st) := by subst hv; exact jy_imul F.1 hdg (z_mul x y) hp k
theorem kx_iand (pc' : Nat) (F : kF B G X l cc own nL ret R) {x y v : Int} (hdg : decode cc pc = .ok (.iand, 1)) (hv : zand x y = v) (hp : pc + 1 = pc') (k : KJ B G X M pc' lo (vI v :: st)) : KJ B G X M pc lo (vI y :: vI x :: st) := by subst hv; exact jy_iand F.1 hdg ((z_ofto _).symm) hp k
theorem kx_ior (pc' : Nat) (F : kF B G X l cc own nL ret R) {x y v : Int} (hdg : decode cc pc = .ok (.ior, 1)) (hv : zor x y = v) (hp : pc + 1 = pc') (k : KJ B G X M pc' lo (vI v :: st)) : KJ B G X M pc lo (vI y :: vI x :: st) := by subst hv; exact jy_ior F.1 hdg ((z_ofto _).symm) hp k
theorem kx_ixor (pc' : Nat) (F : kF B G X l cc own nL ret R) {x y v : Int} (hdg : decode cc pc = .ok (.ixor, 1)) (hv : zxor x y = v) (hp : pc + 1 = pc') (k : KJ B G X M pc' lo (vI v :: st)) : KJ B G X M pc lo (vI y :: vI x :: st) := by subst hv; exact jy_ixor F.1 hdg ((z_ofto _).symm) hp k
theorem kx_ishl (pc' : Nat) (F : kF B G X l cc own nL ret R) {x y v : Int} (hdg : decode cc pc = .ok (.ishl, 1)) (hv : zshl x y = v) (hp : pc + 1 = pc') (k : KJ B G X M pc' lo (vI v :: st)) : KJ B G X M pc lo (vI y :: vI x :: st) := by subst hv; exact jy_ishl F.1 hdg ((z_ofto _).symm) hp k
theorem kx_ishr (pc' : Nat) (F : kF B G X l cc own nL ret R) {x y v : Int} (hdg : decode cc pc = .ok (.ishr, 1)) (hv : zshr x y = v) (hp : pc + 1 = pc') (k : KJ B G X M pc' lo (vI v :: st)) : KJ B G X M pc lo (vI y :: vI x :: st) := by subst hv; exact jy_ishr F.1 hdg ((z_ofto _).symm) hp k
theorem kx_ladd (pc' : Nat) (F : kF B G X l cc own nL ret R) {x y v : Int} (hdg : decode cc pc = .ok (.ladd, 1)) (hv : x + y = v) (hp : pc + 1 = pc') (k : KJ B G X M pc' lo (vL v :: st)) : KJ B G X M pc lo (vL y :: vL x :: st) := by subst hv; exact jy_ladd F.1 hdg ((Int64.ofInt_add ..).symm) hp k
theorem kx_lsub (pc' : Nat) (F : kF B G X l cc own nL ret R) {x y v : Int} (hdg : decode cc pc = .ok (.lsub, 1)) (hv : x - y = v) (hp : pc + 1 = pc') (k : KJ B G X M pc' lo (vL v :: st)) : KJ B G X M pc lo (vL y :: vL x :: st) := by subst hv; exact jy_lsub F.1 hdg ((Int64.ofInt_sub ..).symm) hp k
theorem kx_lmul (pc' : Nat) (F : kF B G X l cc own nL ret R) {x y v : Int} (hdg : decode cc pc = .ok (.lmul, 1)) (hv : x * y = v) (hp : pc + 1 = pc') (k : KJ B G X M pc' lo (vL v :: st)) : KJ B G X M pc lo (vL y :: vL x :: st) := by subst hv; exact jy_lmul F.1 hdg ((Int64.ofInt_mul ..).symm) hp k
theorem z8_rng (x : Int8) : -128 ≤ x.toInt ∧ x.toInt ≤ 127 := ⟨by have := Int8.le_toInt x; simpa using this, by have := Int8.toInt_lt x; simp at this; omega⟩
theorem z16_rng (x : Int16) : -32768 ≤ x.toInt ∧ x.toInt ≤ 32767 := ⟨by have := Int16.le_toInt x; simpa using this, by have := Int16.toInt_lt x; simp at this; omega⟩
theorem z_ne0 {y : Int} (hy : 0 < y ∧ y ≤ 2147483647) : ¬ Int32.ofInt y = 0 := fun e => by
  have h2 := z_to (a := y) ⟨by omega, by omega⟩
  rw [e] at h2
  have h3 : (0 : Int32).toInt = 0 := rfl
  omega
theorem z_div {a b : Int} (ha : 0 ≤ a ∧ a ≤ 2147483647) (hb : 0 < b ∧ b ≤ 2147483647) : Int32.ofInt a / Int32.ofInt b = Int32.ofInt (a / b) := by
  apply Int32.toInt_inj.mp
  have h1 : 0 ≤ a / b := Int.ediv_nonneg ha.1 (by omega)
  have h2 : a / b ≤ a := Int.ediv_le_self _ ha.1
  rw [Int32.toInt_div, z_to ⟨by omega, by omega⟩, z_to ⟨by omega, by omega⟩, z_to ⟨by omega, by omega⟩]
  rw [Int.tdiv_eq_ediv_of_nonneg ha.1]
  have e := z_to (a := a / b) ⟨by omega, by omega⟩
  first | (simp only [Int32.ofInt] at e; done) | (rw [Int.bmod_eq_of_le] <;> omega)
theorem z_mod {a b : Int} (ha : 0 ≤ a ∧ a ≤ 2147483647) (hb : 0 < b ∧ b ≤ 2147483647) : Int32.ofInt a - Int32.ofInt a / Int32.ofInt b * Int32.ofInt b = Int32.ofInt (a % b) := by
  rw [z_div ha hb, z_mul, z_sub]
  congr 1
  have := Int.emod_def a b
  rw [this, Int.mul_comm]
theorem kx_idiv (pc' : Nat) (F : kF B G X l cc own nL ret R) {x y v : Int} (hdg : decode cc pc = .ok (.idiv, 1)) (hx : 0 ≤ x ∧ x ≤ 2147483647) (hy : 0 < y ∧ y ≤ 2147483647) (hv : x / y = v) (hp : pc + 1 = pc') (k : KJ B G X M pc' lo (vI v :: st)) : KJ B G X M pc lo (vI y :: vI x :: st) := by subst hv; exact jy_idiv F.1 hdg (z_ne0 hy) (z_div hx hy) hp k
theorem kx_irem (pc' : Nat) (F : kF B G X l cc own nL ret R) {x y v : Int} (hdg : decode cc pc = .ok (.irem, 1)) (hx : 0 ≤ x ∧ x ≤ 2147483647) (hy : 0 < y ∧ y ≤ 2147483647) (hv : x % y = v) (hp : pc + 1 = pc') (k : KJ B G X M pc' lo (vI v :: st)) : KJ B G X M pc lo (vI y :: vI x :: st) := by subst hv; exact jy_irem F.1 hdg (z_ne0 hy) (z_mod hx hy) hp k
theorem kx_idivf (pc' : Nat) (F : kF B G X l cc own nL ret R) {x y : Int} (hdg : decode cc pc = .ok (.idiv, 1)) (hy : 0 < y ∧ y ≤ 2147483647) (hp : pc + 1 = pc') (k : ∀ v : Int, -2147483648 ≤ v ∧ v ≤ 2147483647 → KJ B G X M pc' lo (vI v :: st)) : KJ B G X M pc lo (vI y :: vI x :: st) := jy_idiv F.1 hdg (z_ne0 hy) (z_ofto _).symm hp (k _ (z_rng _))
theorem kx_iremf (pc' : Nat) (F : kF B G X l cc own nL ret R) {x y : Int} (hdg : decode cc pc = .ok (.irem, 1)) (hy : 0 < y ∧ y ≤ 2147483647) (hp : pc + 1 = pc') (k : ∀ v : Int, -y < v ∧ v < y → KJ B G X M pc' lo (vI v :: st)) : KJ B G X M pc lo (vI y :: vI x :: st) := jy_irem F.1 hdg (z_ne0 hy) (z_ofto _).symm hp (k _ (by rw [rem_toInt, z_to (a := y) ⟨by omega, by omega⟩]; exact tmod_bounds hy.1))
theorem kx_wrapi {e : Int} (k : ∀ v : Int, -2147483648 ≤ v ∧ v ≤ 2147483647 → v = w32 e → KJ B G X M pc lo (vI v :: st)) : KJ B G X M pc lo (vI e :: st) := by
  have h := k (w32 e) (z_rng _) rfl
  have e2 : vI (w32 e) = vI e := by unfold vI w32; rw [z_ofto]
  rw [e2] at h; exact h
theorem kx_wrapl {e : Int} (k : ∀ v : Int, -9223372036854775808 ≤ v ∧ v ≤ 9223372036854775807 → v = w64 e → KJ B G X M pc lo (vL v :: st)) : KJ B G X M pc lo (vL e :: st) := by
  have h := k (w64 e) (zl_rng _) rfl
  have e2 : vL (w64 e) = vL e := by unfold vL w64; rw [zl_ofto]
  rw [e2] at h; exact h
theorem kx_topi {e e' : Int} (h : e = e') (k : KJ B G X M pc lo (vI e' :: st)) : KJ B G X M pc lo (vI e :: st) := h ▸ k
theorem kx_lor (pc' : Nat) (F : kF B G X l cc own nL ret R) {x y : Int} (hdg : decode cc pc = .ok (.lor, 1)) (hp : pc + 1 = pc') (k : ∀ v : Int, -9223372036854775808 ≤ v ∧ v ≤ 9223372036854775807 → KJ B G X M pc' lo (vL v :: st)) : KJ B G X M pc lo (vL y :: vL x :: st) := jy_lor F.1 hdg (zl_ofto _).symm hp (k _ (zl_rng _))
theorem zl_ne {y : Int} (hy : ¬ y = 0) (h : -9223372036854775808 ≤ y ∧ y ≤ 9223372036854775807) : ¬ Int64.ofInt y = 0 := fun e => hy (by have h2 := zl_to h; rw [e] at h2; simpa using h2.symm)
theorem kx_ldiv (pc' : Nat) (F : kF B G X l cc own nL ret R) {x y : Int} (hdg : decode cc pc = .ok (.ldiv, 1)) (hy : ¬ y = 0) (hr : -9223372036854775808 ≤ y ∧ y ≤ 9223372036854775807) (hp : pc + 1 = pc') (k : ∀ v : Int, -9223372036854775808 ≤ v ∧ v ≤ 9223372036854775807 → KJ B G X M pc' lo (vL v :: st)) : KJ B G X M pc lo (vL y :: vL x :: st) := by subst hp; exact fun H locs ls hP hD hZ hl => lv_ldiv F.1.1.1 F.1.1.2.1 hdg (zl_ne hy hr) (by have h := k _ (zl_rng (Int64.ofInt x / Int64.ofInt y)) H locs ls hP hD hZ hl; rw [show vL (Int64.ofInt x / Int64.ofInt y).toInt = .long (Int64.ofInt x / Int64.ofInt y) by unfold vL; rw [zl_ofto]] at h; exact h)
theorem lrem_eq_z (x y : Int64) : x - (x / y) * y = x % y := by
  apply Int64.toInt_inj.mp
  have h1 := Int64.le_toInt (x % y)
  have h2 := Int64.toInt_lt (x % y)
  rw [Int64.toInt_sub, Int64.toInt_mul, Int64.toInt_div, Int.bmod_mul_bmod, Int.sub_bmod_bmod, Int.mul_comm (x.toInt.tdiv y.toInt), ← Int.tmod_def, ← Int64.toInt_mod]
  exact Int.bmod_eq_of_le_mul_two (by omega) (by omega)
theorem Int.natAbs_tmod_le_z (x y : Int) (hy : ¬ y = 0) : (x.tmod y).natAbs < y.natAbs := by rw [Int.natAbs_tmod]; exact Nat.mod_lt _ (by omega)
theorem Int.tmod_bounds_z (x y : Int) (h1 : -9223372036854775808 ≤ y) (h2 : y ≤ 9223372036854775807) (hx : -9223372036854775808 ≤ x ∧ x ≤ 9223372036854775807) : -9223372036854775808 ≤ x.tmod y ∧ x.tmod y ≤ 9223372036854775807 := by
  by_cases hy : y = 0
  · subst hy; rw [Int.tmod_zero]; exact hx
  · have h := Int.natAbs_tmod_le_z x y hy
    omega
theorem zl_rem {x y : Int} (hx : -9223372036854775808 ≤ x ∧ x ≤ 9223372036854775807) (hy : -9223372036854775808 ≤ y ∧ y ≤ 9223372036854775807) : vL (x.tmod y) = .long (Int64.ofInt x - Int64.ofInt x / Int64.ofInt y * Int64.ofInt y) := by
  have e : Int64.ofInt x - Int64.ofInt x / Int64.ofInt y * Int64.ofInt y = Int64.ofInt x % Int64.ofInt y := by
    exact lrem_eq_z _ _
  rw [e]; unfold vL
  congr 1
  apply Int64.toInt_inj.mp
  rw [Int64.toInt_mod, zl_to hx, zl_to hy]
  have h1 := Int.tmod_bounds_z x y hy.1 hy.2 hx
  exact zl_to h1
theorem kx_lrem (pc' : Nat) (F : kF B G X l cc own nL ret R) {x y : Int} (hdg : decode cc pc = .ok (.lrem, 1)) (hy : ¬ y = 0) (hr : -9223372036854775808 ≤ y ∧ y ≤ 9223372036854775807) (hx : -9223372036854775808 ≤ x ∧ x ≤ 9223372036854775807) (hp : pc + 1 = pc') (k : ∀ v : Int, v = (x.tmod y) → KJ B G X M pc' lo (vL v :: st)) : KJ B G X M pc lo (vL y :: vL x :: st) := by subst hp; exact fun H locs ls hP hD hZ hl => lv_lrem F.1.1.1 F.1.1.2.1 hdg (zl_ne hy hr) (by have h := k _ rfl H locs ls hP hD hZ hl; rw [show vL (x.tmod y) = .long (Int64.ofInt x - Int64.ofInt x / Int64.ofInt y * Int64.ofInt y) from zl_rem hx hr] at h; exact h)
theorem lg_cmp3 {a b : Int} (ha : -9223372036854775808 ≤ a ∧ a ≤ 9223372036854775807) (hb : -9223372036854775808 ≤ b ∧ b ≤ 9223372036854775807) : ∃ z : Int, lg_cmp (Int64.ofInt a) (Int64.ofInt b) = Int32.ofInt z ∧ ((z = -1 ∧ a < b) ∨ (z = 0 ∧ a = b) ∨ (z = 1 ∧ b < a)) := by
  unfold lg_cmp
  have h1 : Int64.ofInt b < Int64.ofInt a ↔ b < a := by rw [Int64.lt_iff_toInt_lt, zl_to ha, zl_to hb]
  have h2 : Int64.ofInt a = Int64.ofInt b ↔ a = b := ⟨fun h => by rw [← zl_to ha, ← zl_to hb, h], fun h => by rw [h]⟩
  by_cases c1 : b < a
  · exact ⟨1, by rw [if_pos (h1.mpr c1)]; rfl, by omega⟩
  · by_cases c2 : a = b
    · exact ⟨0, by rw [if_neg (fun h => c1 (h1.mp h)), if_pos (h2.mpr c2)]; rfl, by omega⟩
    · exact ⟨-1, by rw [if_neg (fun h => c1 (h1.mp h)), if_neg (fun h => c2 (h2.mp h))]; rfl, by omega⟩
theorem kx_lcmp (pc' : Nat) (F : kF B G X l cc own nL ret R) {x y : Int} (hdg : decode cc pc = .ok (.lcmp, 1)) (hx : -9223372036854775808 ≤ x ∧ x ≤ 9223372036854775807) (hy : -9223372036854775808 ≤ y ∧ y ≤ 9223372036854775807) (hp : pc + 1 = pc') (k : ∀ z : Int, (z = -1 ∧ x < y) ∨ (z = 0 ∧ x = y) ∨ (z = 1 ∧ y < x) → KJ B G X M pc' lo (vI z :: st)) : KJ B G X M pc lo (vL y :: vL x :: st) := by subst hp; obtain ⟨z, h1, h2⟩ := lg_cmp3 hx hy; exact fun H locs ls hP hD hZ hl => W.lcmp F.1.1.1 F.1.1.2.1 hdg (by rw [h1]; exact k z h2 H locs ls hP hD hZ hl)
theorem kx_i2l (pc' : Nat) (F : kF B G X l cc own nL ret R) {x : Int} (hdg : decode cc pc = .ok (.i2l, 1)) (hx : -2147483648 ≤ x ∧ x ≤ 2147483647) (hp : pc + 1 = pc') (k : KJ B G X M pc' lo (vL x :: st)) : KJ B G X M pc lo (vI x :: st) := jy_i2l F.1 hdg (by apply Int64.toInt_inj.mp; rw [Int32.toInt_toInt64, z_to hx, zl_to ⟨by omega, by omega⟩]) hp k
theorem kx_l2i (pc' : Nat) (F : kF B G X l cc own nL ret R) {x : Int} (hdg : decode cc pc = .ok (.l2i, 1)) (hp : pc + 1 = pc') (k : KJ B G X M pc' lo (vI x :: st)) : KJ B G X M pc lo (vL x :: st) := jy_l2i F.1 hdg (Int64.toInt32_ofInt) hp k
theorem kx_i2b (pc' : Nat) (F : kF B G X l cc own nL ret R) {x : Int} (hdg : decode cc pc = .ok (.i2b, 1)) (hp : pc + 1 = pc') (k : ∀ v : Int, -128 ≤ v ∧ v ≤ 127 → v = ((Int32.ofInt x).toInt8).toInt → KJ B G X M pc' lo (vI v :: st)) : KJ B G X M pc lo (vI x :: st) := jy_i2b F.1 hdg (v := Int32.ofInt ((Int32.ofInt x).toInt8).toInt) (by apply Int32.toInt_inj.mp; have h1 := z8_rng (Int32.ofInt x).toInt8; rw [Int8.toInt_toInt32, z_to ⟨by omega, by omega⟩]) hp (k _ (by have h1 := z8_rng (Int32.ofInt x).toInt8; omega) rfl)
theorem kx_i2s (pc' : Nat) (F : kF B G X l cc own nL ret R) {x : Int} (hdg : decode cc pc = .ok (.i2s, 1)) (hp : pc + 1 = pc') (k : ∀ v : Int, -32768 ≤ v ∧ v ≤ 32767 → v = ((Int32.ofInt x).toInt16).toInt → KJ B G X M pc' lo (vI v :: st)) : KJ B G X M pc lo (vI x :: st) := jy_i2s F.1 hdg (v := Int32.ofInt ((Int32.ofInt x).toInt16).toInt) (by apply Int32.toInt_inj.mp; have h1 := z16_rng (Int32.ofInt x).toInt16; rw [Int16.toInt_toInt32, z_to ⟨by omega, by omega⟩]) hp (k _ (by have h1 := z16_rng (Int32.ofInt x).toInt16; omega) rfl)
theorem kx_dup (pc' : Nat) (F : kF B G X l cc own nL ret R) {v : Value} (hdg : decode cc pc = .ok (.dup, 1)) (hv : v.category = 1) (hp : pc + 1 = pc') (k : KJ B G X M pc' lo (v :: v :: st)) : KJ B G X M pc lo (v :: st) := jy_dup F.1 hdg hv hp k
theorem kx_pop (pc' : Nat) (F : kF B G X l cc own nL ret R) {v : Value} (hdg : decode cc pc = .ok (.pop, 1)) (hv : v.category = 1) (hp : pc + 1 = pc') (k : KJ B G X M pc' lo st) : KJ B G X M pc lo (v :: st) := jy_pop F.1 hdg hv hp k
theorem kx_dup2 (pc' : Nat) (F : kF B G X l cc own nL ret R) {v w : Value} (hdg : decode cc pc = .ok (.dup2, 1)) (hv : v.category = 1) (hw : w.category = 1) (hp : pc + 1 = pc') (k : KJ B G X M pc' lo (v :: w :: v :: w :: st)) : KJ B G X M pc lo (v :: w :: st) := by subst hp; exact fun H locs ls hP hD hZ hl => lv_dup2_11 F.1.1.1 F.1.1.2.1 hdg hv hw (k H locs ls hP hD hZ hl)
theorem kx_icmp_eq (pc' : Nat) (F : kF B G X l cc own nL ret R) (tgt : Nat) {x y : Int} {off : Int} (hdg : decode cc pc = .ok (.if_icmp .eq off, 3)) (ht : (pc : Int) + off = (tgt : Int)) (hp : pc + 3 = pc') (hx : -2147483648 ≤ x ∧ x ≤ 2147483647) (hy : -2147483648 ≤ y ∧ y ≤ 2147483647) (kt : x = y → KJ B G X M tgt lo st) (kf : ¬ x = y → KJ B G X M pc' lo st) : KJ B G X M pc lo (vI y :: vI x :: st) := jy_icmp_eq F.1 hdg ht hp (fun h => kt ((z_eq hx hy).mp h)) (fun h => kf (fun e => h ((z_eq hx hy).mpr e)))
theorem kx_if_eq (pc' : Nat) (F : kF B G X l cc own nL ret R) (tgt : Nat) {x : Int} {off : Int} (hdg : decode cc pc = .ok (.ifCond .eq off, 3)) (ht : (pc : Int) + off = (tgt : Int)) (hp : pc + 3 = pc') (hx : -2147483648 ≤ x ∧ x ≤ 2147483647) (kt : x = 0 → KJ B G X M tgt lo st) (kf : ¬ x = 0 → KJ B G X M pc' lo st) : KJ B G X M pc lo (vI x :: st) := by
  have hy : -2147483648 ≤ (0 : Int) ∧ (0 : Int) ≤ 2147483647 := by omega
  exact jy_if_eq F.1 hdg ht hp (fun h => kt ((z_eq hx hy).mp h)) (fun h => kf (fun e => h ((z_eq hx hy).mpr e)))
theorem kx_icmp_ne (pc' : Nat) (F : kF B G X l cc own nL ret R) (tgt : Nat) {x y : Int} {off : Int} (hdg : decode cc pc = .ok (.if_icmp .ne off, 3)) (ht : (pc : Int) + off = (tgt : Int)) (hp : pc + 3 = pc') (hx : -2147483648 ≤ x ∧ x ≤ 2147483647) (hy : -2147483648 ≤ y ∧ y ≤ 2147483647) (kt : ¬ x = y → KJ B G X M tgt lo st) (kf : x = y → KJ B G X M pc' lo st) : KJ B G X M pc lo (vI y :: vI x :: st) := jy_icmp_ne F.1 hdg ht hp (fun h => kt (fun e => h ((z_eq hx hy).mpr e))) (fun h => kf ((z_eq hx hy).mp h))
theorem kx_if_ne (pc' : Nat) (F : kF B G X l cc own nL ret R) (tgt : Nat) {x : Int} {off : Int} (hdg : decode cc pc = .ok (.ifCond .ne off, 3)) (ht : (pc : Int) + off = (tgt : Int)) (hp : pc + 3 = pc') (hx : -2147483648 ≤ x ∧ x ≤ 2147483647) (kt : ¬ x = 0 → KJ B G X M tgt lo st) (kf : x = 0 → KJ B G X M pc' lo st) : KJ B G X M pc lo (vI x :: st) := by
  have hy : -2147483648 ≤ (0 : Int) ∧ (0 : Int) ≤ 2147483647 := by omega
  exact jy_if_ne F.1 hdg ht hp (fun h => kt (fun e => h ((z_eq hx hy).mpr e))) (fun h => kf ((z_eq hx hy).mp h))
theorem kx_icmp_lt (pc' : Nat) (F : kF B G X l cc own nL ret R) (tgt : Nat) {x y : Int} {off : Int} (hdg : decode cc pc = .ok (.if_icmp .lt off, 3)) (ht : (pc : Int) + off = (tgt : Int)) (hp : pc + 3 = pc') (hx : -2147483648 ≤ x ∧ x ≤ 2147483647) (hy : -2147483648 ≤ y ∧ y ≤ 2147483647) (kt : x < y → KJ B G X M tgt lo st) (kf : y ≤ x → KJ B G X M pc' lo st) : KJ B G X M pc lo (vI y :: vI x :: st) := jy_icmp_lt F.1 hdg ht hp (fun h => kt ((z_lt hx hy).mp h)) (fun h => kf (Int.not_lt.mp (fun e => h ((z_lt hx hy).mpr e))))
theorem kx_if_lt (pc' : Nat) (F : kF B G X l cc own nL ret R) (tgt : Nat) {x : Int} {off : Int} (hdg : decode cc pc = .ok (.ifCond .lt off, 3)) (ht : (pc : Int) + off = (tgt : Int)) (hp : pc + 3 = pc') (hx : -2147483648 ≤ x ∧ x ≤ 2147483647) (kt : x < 0 → KJ B G X M tgt lo st) (kf : 0 ≤ x → KJ B G X M pc' lo st) : KJ B G X M pc lo (vI x :: st) := by
  have hy : -2147483648 ≤ (0 : Int) ∧ (0 : Int) ≤ 2147483647 := by omega
  exact jy_if_lt F.1 hdg ht hp (fun h => kt ((z_lt hx hy).mp h)) (fun h => kf (Int.not_lt.mp (fun e => h ((z_lt hx hy).mpr e))))
theorem kx_icmp_ge (pc' : Nat) (F : kF B G X l cc own nL ret R) (tgt : Nat) {x y : Int} {off : Int} (hdg : decode cc pc = .ok (.if_icmp .ge off, 3)) (ht : (pc : Int) + off = (tgt : Int)) (hp : pc + 3 = pc') (hx : -2147483648 ≤ x ∧ x ≤ 2147483647) (hy : -2147483648 ≤ y ∧ y ≤ 2147483647) (kt : y ≤ x → KJ B G X M tgt lo st) (kf : x < y → KJ B G X M pc' lo st) : KJ B G X M pc lo (vI y :: vI x :: st) := jy_icmp_ge F.1 hdg ht hp (fun h => kt ((z_le hy hx).mp h)) (fun h => kf (Int.not_le.mp (fun e => h ((z_le hy hx).mpr e))))
theorem kx_if_ge (pc' : Nat) (F : kF B G X l cc own nL ret R) (tgt : Nat) {x : Int} {off : Int} (hdg : decode cc pc = .ok (.ifCond .ge off, 3)) (ht : (pc : Int) + off = (tgt : Int)) (hp : pc + 3 = pc') (hx : -2147483648 ≤ x ∧ x ≤ 2147483647) (kt : 0 ≤ x → KJ B G X M tgt lo st) (kf : x < 0 → KJ B G X M pc' lo st) : KJ B G X M pc lo (vI x :: st) := by
  have hy : -2147483648 ≤ (0 : Int) ∧ (0 : Int) ≤ 2147483647 := by omega
  exact jy_if_ge F.1 hdg ht hp (fun h => kt ((z_le hy hx).mp h)) (fun h => kf (Int.not_le.mp (fun e => h ((z_le hy hx).mpr e))))
theorem kx_icmp_gt (pc' : Nat) (F : kF B G X l cc own nL ret R) (tgt : Nat) {x y : Int} {off : Int} (hdg : decode cc pc = .ok (.if_icmp .gt off, 3)) (ht : (pc : Int) + off = (tgt : Int)) (hp : pc + 3 = pc') (hx : -2147483648 ≤ x ∧ x ≤ 2147483647) (hy : -2147483648 ≤ y ∧ y ≤ 2147483647) (kt : y < x → KJ B G X M tgt lo st) (kf : x ≤ y → KJ B G X M pc' lo st) : KJ B G X M pc lo (vI y :: vI x :: st) := jy_icmp_gt F.1 hdg ht hp (fun h => kt ((z_lt hy hx).mp h)) (fun h => kf (Int.not_lt.mp (fun e => h ((z_lt hy hx).mpr e))))
theorem kx_if_gt (pc' : Nat) (F : kF B G X l cc own nL ret R) (tgt : Nat) {x : Int} {off : Int} (hdg : decode cc pc = .ok (.ifCond .gt off, 3)) (ht : (pc : Int) + off = (tgt : Int)) (hp : pc + 3 = pc') (hx : -2147483648 ≤ x ∧ x ≤ 2147483647) (kt : 0 < x → KJ B G X M tgt lo st) (kf : x ≤ 0 → KJ B G X M pc' lo st) : KJ B G X M pc lo (vI x :: st) := by
  have hy : -2147483648 ≤ (0 : Int) ∧ (0 : Int) ≤ 2147483647 := by omega
  exact jy_if_gt F.1 hdg ht hp (fun h => kt ((z_lt hy hx).mp h)) (fun h => kf (Int.not_lt.mp (fun e => h ((z_lt hy hx).mpr e))))
theorem kx_icmp_le (pc' : Nat) (F : kF B G X l cc own nL ret R) (tgt : Nat) {x y : Int} {off : Int} (hdg : decode cc pc = .ok (.if_icmp .le off, 3)) (ht : (pc : Int) + off = (tgt : Int)) (hp : pc + 3 = pc') (hx : -2147483648 ≤ x ∧ x ≤ 2147483647) (hy : -2147483648 ≤ y ∧ y ≤ 2147483647) (kt : x ≤ y → KJ B G X M tgt lo st) (kf : y < x → KJ B G X M pc' lo st) : KJ B G X M pc lo (vI y :: vI x :: st) := jy_icmp_le F.1 hdg ht hp (fun h => kt ((z_le hx hy).mp h)) (fun h => kf (Int.not_le.mp (fun e => h ((z_le hx hy).mpr e))))
theorem kx_if_le (pc' : Nat) (F : kF B G X l cc own nL ret R) (tgt : Nat) {x : Int} {off : Int} (hdg : decode cc pc = .ok (.ifCond .le off, 3)) (ht : (pc : Int) + off = (tgt : Int)) (hp : pc + 3 = pc') (hx : -2147483648 ≤ x ∧ x ≤ 2147483647) (kt : x ≤ 0 → KJ B G X M tgt lo st) (kf : 0 < x → KJ B G X M pc' lo st) : KJ B G X M pc lo (vI x :: st) := by
  have hy : -2147483648 ≤ (0 : Int) ∧ (0 : Int) ≤ 2147483647 := by omega
  exact jy_if_le F.1 hdg ht hp (fun h => kt ((z_le hx hy).mp h)) (fun h => kf (Int.not_le.mp (fun e => h ((z_le hx hy).mpr e))))
theorem kx_goto (tgt : Nat) (F : kF B G X l cc own nL ret R) {off : Int} (hdg : decode cc pc = .ok (.goto off, 3)) (ht : (pc : Int) + off = (tgt : Int)) (k : KJ B G X M tgt lo st) : KJ B G X M pc lo st := jy_goto F.1 hdg ht k
theorem kx_geti (pc' : Nat) (F : kF B G X l cc own nL ret R) {c j : Int} {kn ci i index : Nat} {ty : FieldType} {v : Int} (fd : kFd own index ci i ty) (hk : kd c = kn) (hw : kW B kn = true) (hck : kck kn ci i 0 = true) (hj : (i : Int) = j) (hdg : decode cc pc = .ok (.getfield index, 3)) (hv : M c j = v) (hp : pc + 3 = pc') (k : KJ B G X M pc' lo (vI v :: st)) : KJ B G X M pc lo (vR G c :: st) := by
  subst hj
  subst hv
  obtain ⟨C, T, N, tyf, ⟨c1, c2, c3, c4⟩, h1, h2, h3⟩ := fd
  obtain ⟨k1, k2, k3, k4⟩ := kck_spec hck
  have hat := wd_at (G := G) (M := M) (kin_of hk hw)
  rw [hk, ke_obj k1] at hat
  have hf := kf_at (G := G) (f := M c) k3
  rw [k4] at hf
  subst k2
  exact jy_get F.1 c2 _ hat c1 i h1 hdg h2 hf hp k
theorem kx_getl (pc' : Nat) (F : kF B G X l cc own nL ret R) {c j : Int} {kn ci i index : Nat} {ty : FieldType} {v : Int} (fd : kFd own index ci i ty) (hk : kd c = kn) (hw : kW B kn = true) (hck : kck kn ci i 1 = true) (hj : (i : Int) = j) (hdg : decode cc pc = .ok (.getfield index, 3)) (hv : M c j = v) (hp : pc + 3 = pc') (k : KJ B G X M pc' lo (vL v :: st)) : KJ B G X M pc lo (vR G c :: st) := by
  subst hj
  subst hv
  obtain ⟨C, T, N, tyf, ⟨c1, c2, c3, c4⟩, h1, h2, h3⟩ := fd
  obtain ⟨k1, k2, k3, k4⟩ := kck_spec hck
  have hat := wd_at (G := G) (M := M) (kin_of hk hw)
  rw [hk, ke_obj k1] at hat
  have hf := kf_at (G := G) (f := M c) k3
  rw [k4] at hf
  subst k2
  exact jy_get F.1 c2 _ hat c1 i h1 hdg h2 hf hp k
theorem kx_getr (pc' : Nat) (F : kF B G X l cc own nL ret R) {c j : Int} {kn ci i index : Nat} {ty : FieldType} {v : Int} (fd : kFd own index ci i ty) (hk : kd c = kn) (hw : kW B kn = true) (hck : kck kn ci i 2 = true) (hj : (i : Int) = j) (hdg : decode cc pc = .ok (.getfield index, 3)) (hv : M c j = v) (hp : pc + 3 = pc') (k : KJ B G X M pc' lo (vR G v :: st)) : KJ B G X M pc lo (vR G c :: st) := by
  subst hj
  subst hv
  obtain ⟨C, T, N, tyf, ⟨c1, c2, c3, c4⟩, h1, h2, h3⟩ := fd
  obtain ⟨k1, k2, k3, k4⟩ := kck_spec hck
  have hat := wd_at (G := G) (M := M) (kin_of hk hw)
  rw [hk, ke_obj k1] at hat
  have hf := kf_at (G := G) (f := M c) k3
  rw [k4] at hf
  subst k2
  exact jy_get F.1 c2 _ hat c1 i h1 hdg h2 hf hp k
theorem kx_puti (pc' : Nat) (F : kF B G X l cc own nL ret R) {c j : Int} {kn ci i index : Nat} {ty : FieldType} {v : Int} (fd : kFw own index ci i ty) (hty : ty = .int) (hk : kd c = kn) (hw : kW B kn = true) (hck : kck kn ci i 0 = true) (hj : (i : Int) = j) (hdg : decode cc pc = .ok (.putfield index, 3)) (hp : pc + 3 = pc') (k : ∀ N : Mem, N = mu M c j v → KJ B G X N pc' lo st) : KJ B G X M pc lo (vI v :: vR G c :: st) := by
  subst hj
  obtain ⟨C, T, N, tyf, ⟨c1, c2, c3, c4⟩, h1, h2, h3, h4⟩ := fd
  obtain ⟨k1, k2, k3, k4⟩ := kck_spec hck
  have hb := kin_of (B := B) hk hw
  have hat := wd_at (G := G) (M := M) hb
  rw [hk, ke_obj k1] at hat
  have hws := wd_set (G := G) (M := M) (N := mu M c i v) (E := .inr (kC kn, ((List.range (kN kn)).map (fun (i : Nat) => kv G (kT kn i) (M c i))).set i (vI v))) hb (by
    rw [hk, ke_obj k1, kf_set (g := mu M c i v c) k3 (by rw [k4, mu_s]; rfl) (fun j hj => mu_i (by omega))]) (fun a ha => funext fun j => mu_c ha)
  subst k2
  subst hty
  exact jy_put F.1 c2 tyf c3 c4 _ hat c1 i h1 hdg h2 h4 h3 rfl rfl (by simpa using k3) hws hp (k _ rfl)
theorem kx_putz (pc' : Nat) (F : kF B G X l cc own nL ret R) {c j : Int} {kn ci i index : Nat} {ty : FieldType} {v : Int} (fd : kFw own index ci i ty) (hty : ty = .boolean) (hz : v = 0 ∨ v = 1) (hk : kd c = kn) (hw : kW B kn = true) (hck : kck kn ci i 0 = true) (hj : (i : Int) = j) (hdg : decode cc pc = .ok (.putfield index, 3)) (hp : pc + 3 = pc') (k : ∀ N : Mem, N = mu M c j v → KJ B G X N pc' lo st) : KJ B G X M pc lo (vI v :: vR G c :: st) := by
  subst hj
  obtain ⟨C, T, N, tyf, ⟨c1, c2, c3, c4⟩, h1, h2, h3, h4⟩ := fd
  obtain ⟨k1, k2, k3, k4⟩ := kck_spec hck
  have hb := kin_of (B := B) hk hw
  have hat := wd_at (G := G) (M := M) hb
  rw [hk, ke_obj k1] at hat
  have hws := wd_set (G := G) (M := M) (N := mu M c i v) (E := .inr (kC kn, ((List.range (kN kn)).map (fun (i : Nat) => kv G (kT kn i) (M c i))).set i (vI v))) hb (by
    rw [hk, ke_obj k1, kf_set (g := mu M c i v c) k3 (by rw [k4, mu_s]; rfl) (fun j hj => mu_i (by omega))]) (fun a ha => funext fun j => mu_c ha)
  subst k2
  subst hty
  exact jy_put F.1 c2 tyf c3 c4 _ hat c1 i h1 hdg h2 h4 h3 (by rcases hz with rfl | rfl <;> rfl) (by rcases hz with rfl | rfl <;> rfl) (by simpa using k3) hws hp (k _ rfl)
theorem kx_putl (pc' : Nat) (F : kF B G X l cc own nL ret R) {c j : Int} {kn ci i index : Nat} {ty : FieldType} {v : Int} (fd : kFw own index ci i ty) (hty : ty = .long) (hk : kd c = kn) (hw : kW B kn = true) (hck : kck kn ci i 1 = true) (hj : (i : Int) = j) (hdg : decode cc pc = .ok (.putfield index, 3)) (hp : pc + 3 = pc') (k : ∀ N : Mem, N = mu M c j v → KJ B G X N pc' lo st) : KJ B G X M pc lo (vL v :: vR G c :: st) := by
  subst hj
  obtain ⟨C, T, N, tyf, ⟨c1, c2, c3, c4⟩, h1, h2, h3, h4⟩ := fd
  obtain ⟨k1, k2, k3, k4⟩ := kck_spec hck
  have hb := kin_of (B := B) hk hw
  have hat := wd_at (G := G) (M := M) hb
  rw [hk, ke_obj k1] at hat
  have hws := wd_set (G := G) (M := M) (N := mu M c i v) (E := .inr (kC kn, ((List.range (kN kn)).map (fun (i : Nat) => kv G (kT kn i) (M c i))).set i (vL v))) hb (by
    rw [hk, ke_obj k1, kf_set (g := mu M c i v c) k3 (by rw [k4, mu_s]; rfl) (fun j hj => mu_i (by omega))]) (fun a ha => funext fun j => mu_c ha)
  subst k2
  subst hty
  exact jy_put F.1 c2 tyf c3 c4 _ hat c1 i h1 hdg h2 h4 h3 rfl rfl (by simpa using k3) hws hp (k _ rfl)
theorem kx_putr (pc' : Nat) (F : kF B G X l cc own nL ret R) {c j : Int} {kn ci i index : Nat} {ty : FieldType} {v : Int} (fd : kFw own index ci i ty) (hty : (∃ s, ty = .object s) ∨ ∃ s, ty = .array s) (hk : kd c = kn) (hw : kW B kn = true) (hck : kck kn ci i 2 = true) (hj : (i : Int) = j) (hdg : decode cc pc = .ok (.putfield index, 3)) (hp : pc + 3 = pc') (k : ∀ N : Mem, N = mu M c j v → KJ B G X N pc' lo st) : KJ B G X M pc lo (vR G v :: vR G c :: st) := by
  subst hj
  obtain ⟨C, T, N, tyf, ⟨c1, c2, c3, c4⟩, h1, h2, h3, h4⟩ := fd
  obtain ⟨k1, k2, k3, k4⟩ := kck_spec hck
  have hb := kin_of (B := B) hk hw
  have hat := wd_at (G := G) (M := M) hb
  rw [hk, ke_obj k1] at hat
  have hws := wd_set (G := G) (M := M) (N := mu M c i v) (E := .inr (kC kn, ((List.range (kN kn)).map (fun (i : Nat) => kv G (kT kn i) (M c i))).set i (vR G v))) hb (by
    rw [hk, ke_obj k1, kf_set (g := mu M c i v c) k3 (by rw [k4, mu_s]; rfl) (fun j hj => mu_i (by omega))]) (fun a ha => funext fun j => mu_c ha)
  subst k2
  exact jy_put F.1 c2 tyf c3 c4 _ hat c1 i h1 hdg h2 h4 h3 (by rcases hty with ⟨s, rfl⟩ | ⟨s, rfl⟩ <;> rfl) (by rcases hty with ⟨s, rfl⟩ | ⟨s, rfl⟩ <;> rfl) (by simpa using k3) hws hp (k _ rfl)
theorem kx_iald (pc' : Nat) (F : kF B G X l cc own nL ret R) {c z : Int} {kn m : Nat} {v : Int} (hk : kd c = kn) (hw : kW B kn = true) (hA : kA kn = some (0, m)) (h0 : 0 ≤ z ∧ z < m) (hm : m < 2147483648) (hdg : decode cc pc = .ok (.iaload, 1)) (hv : M c z = v) (hp : pc + 1 = pc') (k : KJ B G X M pc' lo (vI v :: st)) : KJ B G X M pc lo (vI z :: vR G c :: st) := by
  have hat := wd_at (G := G) (M := M) (kin_of hk hw)
  rw [hk, ke_arr hA] at hat
  exact jy_iald F.1 _ 1 hat rfl hdg (z_in h0.1 h0.2 hm) (by show _ = _; rw [z_nat (z := z) ⟨h0.1, by omega⟩]; show Int32.ofInt (M c ((z.toNat : Nat) : Int)) = _; rw [Int.toNat_of_nonneg h0.1, hv]) hp k
theorem kx_bald (pc' : Nat) (F : kF B G X l cc own nL ret R) {c z : Int} {kn m : Nat} {v : Int} (hk : kd c = kn) (hw : kW B kn = true) (hA : kA kn = some (1, m)) (h0 : 0 ≤ z ∧ z < m) (hm : m < 2147483648) (hdg : decode cc pc = .ok (.baload, 1)) (hv : M c z = v) (hp : pc + 1 = pc') (k : KJ B G X M pc' lo (vI v :: st)) : KJ B G X M pc lo (vI z :: vR G c :: st) := by
  have hat := wd_at (G := G) (M := M) (kin_of hk hw)
  rw [hk, ke_arr hA] at hat
  exact jy_bald F.1 _ 0 hat rfl hdg (z_in h0.1 h0.2 hm) (by show _ = _; rw [z_nat (z := z) ⟨h0.1, by omega⟩]; show Int32.ofInt (M c ((z.toNat : Nat) : Int)) = _; rw [Int.toNat_of_nonneg h0.1, hv]) hp k
theorem kx_lald (pc' : Nat) (F : kF B G X l cc own nL ret R) {c z : Int} {kn m : Nat} {v : Int} (hk : kd c = kn) (hw : kW B kn = true) (hA : kA kn = some (2, m)) (h0 : 0 ≤ z ∧ z < m) (hm : m < 2147483648) (hdg : decode cc pc = .ok (.laload, 1)) (hv : M c z = v) (hp : pc + 1 = pc') (k : KJ B G X M pc' lo (vL v :: st)) : KJ B G X M pc lo (vI z :: vR G c :: st) := by
  have hat := wd_at (G := G) (M := M) (kin_of hk hw)
  rw [hk, ke_arr hA] at hat
  exact jy_lald F.1 _ 2 hat rfl hdg (z_in h0.1 h0.2 hm) (by show _ = _; rw [z_nat (z := z) ⟨h0.1, by omega⟩]; show Int64.ofInt (M c ((z.toNat : Nat) : Int)) = _; rw [Int.toNat_of_nonneg h0.1, hv]) hp k
theorem kx_aald (pc' : Nat) (F : kF B G X l cc own nL ret R) {c z : Int} {kn m : Nat} {v : Int} (hk : kd c = kn) (hw : kW B kn = true) (hA : kA kn = some (3, m)) (h0 : 0 ≤ z ∧ z < m) (hm : m < 2147483648) (hdg : decode cc pc = .ok (.aaload, 1)) (hv : M c z = v) (hp : pc + 1 = pc') (k : KJ B G X M pc' lo (vR G v :: st)) : KJ B G X M pc lo (vI z :: vR G c :: st) := by
  have hat := wd_at (G := G) (M := M) (kin_of hk hw)
  rw [hk, ke_arr hA] at hat
  exact jy_aldq F.1 _ 3 hat rfl hdg (z_in h0.1 h0.2 hm) (by show va_rf _ = _; rw [z_nat (z := z) ⟨h0.1, by omega⟩]; show va_rf (some (G.2.1 (M c ((z.toNat : Nat) : Int)))) = _; rw [Int.toNat_of_nonneg h0.1, hv]; rfl) hp k
theorem kx_iast (pc' : Nat) (F : kF B G X l cc own nL ret R) {c z : Int} {kn m : Nat} {v : Int} (hk : kd c = kn) (hw : kW B kn = true) (hA : kA kn = some (0, m)) (h0 : 0 ≤ z ∧ z < m) (hm : m < 2147483648) (hdg : decode cc pc = .ok (.iastore, 1)) (hp : pc + 1 = pc') (k : ∀ N : Mem, N = mu M c z v → KJ B G X N pc' lo st) : KJ B G X M pc lo (vI v :: vI z :: vR G c :: st) := by
  have hb := kin_of (B := B) hk hw
  have hat := wd_at (G := G) (M := M) hb
  rw [hk, ke_arr hA] at hat
  have hws := wd_set (G := G) (M := M) (N := mu M c z v) (E := .inl (G.1.2.1, m, .inl (fun (j : Nat) => Int32.ofInt (mu M c z v c j)))) hb (by rw [hk, ke_arr hA]; rfl) (fun a ha => funext fun j => mu_c ha)
  refine jy_iast F.1 _ 1 hat rfl hdg (z_in h0.1 h0.2 hm) (g := fun (j : Nat) => Int32.ofInt (mu M c z v c j)) ?_ hws hp (k _ rfl)
  funext j
  rw [z_nat (z := z) ⟨h0.1, by omega⟩]
  unfold upd
  by_cases hj : j = z.toNat
  · subst hj; rw [if_pos rfl]; congr 1; rw [Int.toNat_of_nonneg h0.1, mu_s]
  · rw [if_neg hj]; show Int32.ofInt (M c (j : Int)) = _; rw [mu_i (j := (j : Int)) (i := z) (by omega)]
theorem kx_bast (pc' : Nat) (F : kF B G X l cc own nL ret R) {c z : Int} {kn m : Nat} {v : Int} (hb8 : -128 ≤ v ∧ v ≤ 127) (hk : kd c = kn) (hw : kW B kn = true) (hA : kA kn = some (1, m)) (h0 : 0 ≤ z ∧ z < m) (hm : m < 2147483648) (hdg : decode cc pc = .ok (.bastore, 1)) (hp : pc + 1 = pc') (k : ∀ N : Mem, N = mu M c z v → KJ B G X N pc' lo st) : KJ B G X M pc lo (vI v :: vI z :: vR G c :: st) := by
  have hnar : vp_nar .byte (Int32.ofInt v) = Int32.ofInt v := by
    show (Int32.ofInt v).toInt8.toInt32 = _
    apply Int32.toInt_inj.mp
    rw [Int8.toInt_toInt32, z_to ⟨by omega, by omega⟩]
    have e : (Int32.ofInt v).toInt8 = Int8.ofInt v := Int32.toInt8_ofInt
    rw [e]; exact Int8.toInt_ofInt_of_le (by simp; omega) (by simp; omega)
  have hb := kin_of (B := B) hk hw
  have hat := wd_at (G := G) (M := M) hb
  rw [hk, ke_arr hA] at hat
  have hws := wd_set (G := G) (M := M) (N := mu M c z v) (E := .inl (G.1.1, m, .inl (fun (j : Nat) => Int32.ofInt (mu M c z v c j)))) hb (by rw [hk, ke_arr hA]; rfl) (fun a ha => funext fun j => mu_c ha)
  refine jy_bast F.1 _ 0 hat rfl hdg (z_in h0.1 h0.2 hm) (g := fun (j : Nat) => Int32.ofInt (mu M c z v c j)) ?_ hws hp (k _ rfl)
  funext j
  rw [hnar, z_nat (z := z) ⟨h0.1, by omega⟩]
  unfold upd
  by_cases hj : j = z.toNat
  · subst hj; rw [if_pos rfl]; congr 1; rw [Int.toNat_of_nonneg h0.1, mu_s]
  · rw [if_neg hj]; show Int32.ofInt (M c (j : Int)) = _; rw [mu_i (j := (j : Int)) (i := z) (by omega)]
theorem kx_last (pc' : Nat) (F : kF B G X l cc own nL ret R) {c z : Int} {kn m : Nat} {v : Int} (hk : kd c = kn) (hw : kW B kn = true) (hA : kA kn = some (2, m)) (h0 : 0 ≤ z ∧ z < m) (hm : m < 2147483648) (hdg : decode cc pc = .ok (.lastore, 1)) (hp : pc + 1 = pc') (k : ∀ N : Mem, N = mu M c z v → KJ B G X N pc' lo st) : KJ B G X M pc lo (vL v :: vI z :: vR G c :: st) := by
  have hb := kin_of (B := B) hk hw
  have hat := wd_at (G := G) (M := M) hb
  rw [hk, ke_arr hA] at hat
  have hws := wd_set (G := G) (M := M) (N := mu M c z v) (E := .inl (G.1.2.2.1, m, .inr (.inl (fun (j : Nat) => Int64.ofInt (mu M c z v c j))))) hb (by rw [hk, ke_arr hA]; rfl) (fun a ha => funext fun j => mu_c ha)
  refine jy_last F.1 _ 2 hat rfl hdg (z_in h0.1 h0.2 hm) (g := fun (j : Nat) => Int64.ofInt (mu M c z v c j)) ?_ hws hp (k _ rfl)
  funext j
  rw [z_nat (z := z) ⟨h0.1, by omega⟩]
  unfold vp_updL
  by_cases hj : j = z.toNat
  · subst hj; rw [if_pos rfl]; congr 1; rw [Int.toNat_of_nonneg h0.1, mu_s]
  · rw [if_neg hj]; show Int64.ofInt (M c (j : Int)) = _; rw [mu_i (j := (j : Int)) (i := z) (by omega)]
theorem kx_alen (pc' : Nat) (F : kF B G X l cc own nL ret R) {c : Int} {kn t m : Nat} {z : Int} (hk : kd c = kn) (hw : kW B kn = true) (hA : kA kn = some (t, m)) (hz : Int32.ofNat m = Int32.ofInt z) (hdg : decode cc pc = .ok (.arraylength, 1)) (hp : pc + 1 = pc') (k : KJ B G X M pc' lo (vI z :: st)) : KJ B G X M pc lo (vR G c :: st) := by
  have hat := wd_at (G := G) (M := M) (kin_of hk hw)
  rw [hk, ke_arr hA] at hat
  match t, hat with
  | 0, hat => exact jy_alen F.1 _ 1 hat rfl hdg hz hp k
  | 1, hat => exact jy_alen F.1 _ 0 hat rfl hdg hz hp k
  | 2, hat => exact jy_alen F.1 _ 2 hat rfl hdg hz hp k
  | t + 3, hat => exact jy_alen F.1 _ 3 hat rfl hdg hz hp k
theorem kx_tableIn (tgt : Nat) (F : kF B G X l cc own nL ret R) {dflt l0 hi : Int} {offs : Array Int} {len : Nat} {x off : Int} (hx : -2147483648 ≤ x ∧ x ≤ 2147483647) (hdg : decode cc pc = .ok (.tableswitch dflt l0 hi offs, len)) (h1 : l0 ≤ x ∧ x ≤ hi) (ho : offs[(x - l0).toNat]? = some off) (ht : (pc : Int) + off = (tgt : Int)) (k : KJ B G X M tgt lo st) : KJ B G X M pc lo (vI x :: st) := jy_tableIn F.1 hdg (by rw [z_to hx]; omega) (by rw [z_to hx]; omega) (by rw [z_to hx]; exact ho) ht k
theorem kx_tableOut (tgt : Nat) (F : kF B G X l cc own nL ret R) {dflt l0 hi : Int} {offs : Array Int} {len : Nat} {x : Int} (hx : -2147483648 ≤ x ∧ x ≤ 2147483647) (hdg : decode cc pc = .ok (.tableswitch dflt l0 hi offs, len)) (h1 : x < l0 ∨ hi < x) (ht : (pc : Int) + dflt = (tgt : Int)) (k : KJ B G X M tgt lo st) : KJ B G X M pc lo (vI x :: st) := jy_tableOut F.1 hdg (by rw [z_to hx]; exact h1) ht k
theorem kx_iret (F : kF B G X l cc own nL (some .int) R) {Q : Int → Mem → Prop} (hQ : xQ X = MQ (xb X) (kQi B G (xA X) Q) (xa X) (xs X) 0 0 (xA X)) {z : Int} (hp : Q z M) (hdg : decode cc pc = .ok (.ireturn, 1)) : KJ B G X M pc lo [vI z] := by
  unfold KJ; rw [hQ]
  exact jy_iret F.1 F.2.2.2.2.1 F.2.2.2.2.2.1 M ⟨z, rfl, hp⟩ (List.range (wn B)) (wd_all ..) (nd_range _) hdg
theorem kx_zret (F : kF B G X l cc own nL (some .boolean) R) {Q : Int → Mem → Prop} (hQ : xQ X = MQ (xb X) (kQi B G (xA X) Q) (xa X) (xs X) 0 0 (xA X)) {z : Int} (hz : z = 0 ∨ z = 1) (hp : Q z M) (hdg : decode cc pc = .ok (.ireturn, 1)) : KJ B G X M pc lo [vI z] := by
  unfold KJ; rw [hQ]
  exact jy_zret F.1 F.2.2.2.2.1 F.2.2.2.2.2.1 (by rcases hz with rfl | rfl <;> rfl) M ⟨z, rfl, hp⟩ (List.range (wn B)) (wd_all ..) (nd_range _) hdg
theorem kx_lret (F : kF B G X l cc own nL (some .long) R) {Q : Int → Mem → Prop} (hQ : xQ X = MQ (xb X) (kQl B G (xA X) Q) (xa X) (xs X) 0 0 (xA X)) {z : Int} (hp : Q z M) (hdg : decode cc pc = .ok (.lreturn, 1)) : KJ B G X M pc lo [vL z] := by
  unfold KJ; rw [hQ]
  exact jy_lret F.1 F.2.2.2.2.1 F.2.2.2.2.2.1 M ⟨z, rfl, hp⟩ (List.range (wn B)) (wd_all ..) (nd_range _) hdg
theorem kx_vret (F : kF B G X l cc own nL none R) {Q : Mem → Prop} (hQ : xQ X = MQ (xb X) (kQv B G (xA X) Q) (xa X) (xs X) 0 0 (xA X)) (hp : Q M) (hdg : decode cc pc = .ok (.return_, 1)) : KJ B G X M pc lo [] := by
  unfold KJ; rw [hQ]
  exact jy_vret F.1 F.2.2.2.2.1 F.2.2.2.2.2.1 M hp (List.range (wn B)) (wd_all ..) (nd_range _) hdg
theorem kx_aret {o : String} (F : kF B G X l cc own nL (some (.object o)) R) {Q : Int → Mem → Prop} (hQ : xQ X = MQ (xb X) (kQr B G (xA X) Q) (xa X) (xs X) 0 0 (xA X)) {z : Int} (hp : Q z M) (hdg : decode cc pc = .ok (.areturn, 1)) : KJ B G X M pc lo [vR G z] := by
  unfold KJ; rw [hQ]
  exact fun H locs ls hP hD hZ hl => W.aret F.1.1.1 F.1.1.2.1 F.2.2.2.2.1 (Or.inl ⟨_, rfl⟩) (Or.inr ⟨_, rfl⟩) (fun t ht hW => ⟨⟨(z, M), G.2.1 z, rfl, hp, rfl, by rw [ht]; exact hP, hD⟩, hZ.F ht⟩) hZ.2.2 hdg F.2.2.2.2.2.1
theorem kx_pre (F : kF B G X l cc own nL ret R) {H : Heap} {locs : List Loc} {av : List Value} (hP : va_P G.2.2.1 vwCl (wD B G M) H) (hD : va_D (xA X) (wD B G M)) (hZ : va_S (xA X) (xs X).heap H locs) : ∀ U : State, U.heap = H → (xs X).WarmedH U.vm → kP B G av M H.size av.toArray U := fun U hU hW => ⟨jy_pre F.1 F.2.1 hP hD (List.range (wn B)) (wd_all ..) (nd_range _) U hU hW, F.2.2.2.1.to hZ (va_free hD hZ F.2.2.1 (List.range (wn B)) (wd_all ..)) hU hW⟩
theorem kx_Vi (pc' : Nat) (F : kF B G X l cc own nL ret R) {y : MethodName} {bytes : ByteArray} {mL n index : Nat} {rt : Option FieldType} {rm : Nat × Nat} {As st0 : List Value} {c : Int} {kn ci : Nat} {Q : Int → Mem → Prop} (vd : kVd own index y bytes mL rt n) (hM : KC B G l y bytes mL rt rm (vR G c :: As) M (fun A => kQi B G A Q)) (hk : kd c = kn) (hw : kW B kn = true) (hA0 : kA kn = none) (hci : vwCl[kC kn]?.map (·.1) = some y.cls) (hR : rm.1 + 1 ≤ R.frames ∧ 8 + (mL + 11) + rm.2 ≤ R.locals) (hn : As.length = n) (hst : st0 = As.reverse ++ vR G c :: st) (hroom : (st.map fun v => v.category).sum ≤ 8) (hdg : decode cc pc = .ok (.invokevirtual index, 3)) (hp : pc + 3 = pc') (kk : ∀ (z : Int) (N : Mem), Q z N → KJ B G X N pc' lo (vI z :: st)) : KJ B G X M pc lo st0 := by
  subst hp
  obtain ⟨d0, d1, d2, d3, d4, d5⟩ := vd
  have hat := wd_at (G := G) (M := M) (kin_of hk hw)
  rw [hk, ke_obj hA0] at hat
  obtain ⟨⟨C, T, N⟩, hcl, hcc⟩ : ∃ q, vwCl[kC kn]? = some q ∧ q.1 = y.cls := by
    cases hx : vwCl[kC kn]? with
    | none => rw [hx] at hci; cases hci
    | some q => rw [hx] at hci; exact ⟨q, rfl, by simpa using hci⟩
  have cw := jy_cV (R := xR X) F.1 (tt_in d5) rfl d0 d1 d2 d3 d4 (rm := { frames := rm.1, cells := 0, slots := 0, locals := rm.2 }) (mc := 0) (ms := 0) rfl rfl (by rw [F.2.2.2.2.2.2.2.1]; exact hR)
  have hcw : y.cls = C := hcc.symm
  rw [hcw] at cw
  exact fun H locs ls hP hD hZ hl => va_calli (va_runV F.1.1 (by have := hM H.size; rw [← F.2.2.2.2.2.2.2.2] at this; exact this) cw ⟨kP_blind, va_recv F.1.2 hP hcl hat, kx_pre F hP hD hZ⟩ rfl hn hl.1 hst (lv_room hroom) hdg ⟨Nat.zero_le _, Nat.zero_le _⟩) hZ (fun q _ h => va_free hD hZ F.2.2.1 (List.range (wn B)) (wd_all ..) q h) (va_free hD hZ F.2.2.1 (List.range (wn B)) (wd_all ..)) (fun r u t H1 locs1 ht hvm hpost hB hz hkk hS1 => by
    obtain ⟨z, rfl, hq⟩ := hpost
    obtain ⟨b1, b2⟩ := hB
    rw [ht] at b1
    have hD2 : va_D (xA X) (wD B G u) := ⟨b2.1, fun k q hq => va_free hD hZ F.2.2.1 (List.range (wn B)) (wd_all ..) _ (b2.2 k q hq)⟩
    exact kk z u hq H1 locs1 ls b1 hD2 hS1 hl)
theorem kx_Si (pc' : Nat) (F : kF B G X l cc own nL ret R) {y : MethodName} {bytes : ByteArray} {mL n index : Nat} {rt : Option FieldType} {rm : Nat × Nat} {As st0 : List Value} {Q : Int → Mem → Prop} (vd : kSd own index y bytes mL rt n) (hM : KC B G l y bytes mL rt rm As M (fun A => kQi B G A Q)) (hR : rm.1 + 1 ≤ R.frames ∧ 8 + (mL + 11) + rm.2 ≤ R.locals) (hn : As.length = n) (hst : st0 = As.reverse ++ st) (hroom : (st.map fun v => v.category).sum ≤ 8) (hdg : decode cc pc = .ok (.invokestatic index, 3)) (hp : pc + 3 = pc') (kk : ∀ (z : Int) (N : Mem), Q z N → KJ B G X N pc' lo (vI z :: st)) : KJ B G X M pc lo st0 := by
  subst hp
  obtain ⟨d0, d1, d2, d3, d5⟩ := vd
  have cw := jy_cS (R := xR X) F.1 (tt_in d5) rfl d0 d1 d2 d3 (rm := { frames := rm.1, cells := 0, slots := 0, locals := rm.2 }) (mc := 0) (ms := 0) rfl rfl (by rw [F.2.2.2.2.2.2.2.1]; exact hR)
  exact fun H locs ls hP hD hZ hl => va_calli (va_runS F.1.1 (by have := hM H.size; rw [← F.2.2.2.2.2.2.2.2] at this; exact this) cw ⟨kP_blind, kx_pre F hP hD hZ⟩ rfl hn hl.1 hst (lv_room hroom) hdg ⟨Nat.zero_le _, Nat.zero_le _⟩) hZ (fun q _ h => va_free hD hZ F.2.2.1 (List.range (wn B)) (wd_all ..) q h) (va_free hD hZ F.2.2.1 (List.range (wn B)) (wd_all ..)) (fun r u t H1 locs1 ht hvm hpost hB hz hkk hS1 => by
    obtain ⟨z, rfl, hq⟩ := hpost
    obtain ⟨b1, b2⟩ := hB
    rw [ht] at b1
    have hD2 : va_D (xA X) (wD B G u) := ⟨b2.1, fun k q hq => va_free hD hZ F.2.2.1 (List.range (wn B)) (wd_all ..) _ (b2.2 k q hq)⟩
    exact kk z u hq H1 locs1 ls b1 hD2 hS1 hl)
theorem kx_Vl (pc' : Nat) (F : kF B G X l cc own nL ret R) {y : MethodName} {bytes : ByteArray} {mL n index : Nat} {rt : Option FieldType} {rm : Nat × Nat} {As st0 : List Value} {c : Int} {kn ci : Nat} {Q : Int → Mem → Prop} (vd : kVd own index y bytes mL rt n) (hM : KC B G l y bytes mL rt rm (vR G c :: As) M (fun A => kQl B G A Q)) (hk : kd c = kn) (hw : kW B kn = true) (hA0 : kA kn = none) (hci : vwCl[kC kn]?.map (·.1) = some y.cls) (hR : rm.1 + 1 ≤ R.frames ∧ 8 + (mL + 11) + rm.2 ≤ R.locals) (hn : As.length = n) (hst : st0 = As.reverse ++ vR G c :: st) (hroom : (st.map fun v => v.category).sum ≤ 8) (hdg : decode cc pc = .ok (.invokevirtual index, 3)) (hp : pc + 3 = pc') (kk : ∀ (z : Int) (N : Mem), Q z N → KJ B G X N pc' lo (vL z :: st)) : KJ B G X M pc lo st0 := by
  subst hp
  obtain ⟨d0, d1, d2, d3, d4, d5⟩ := vd
  have hat := wd_at (G := G) (M := M) (kin_of hk hw)
  rw [hk, ke_obj hA0] at hat
  obtain ⟨⟨C, T, N⟩, hcl, hcc⟩ : ∃ q, vwCl[kC kn]? = some q ∧ q.1 = y.cls := by
    cases hx : vwCl[kC kn]? with
    | none => rw [hx] at hci; cases hci
    | some q => rw [hx] at hci; exact ⟨q, rfl, by simpa using hci⟩
  have cw := jy_cV (R := xR X) F.1 (tt_in d5) rfl d0 d1 d2 d3 d4 (rm := { frames := rm.1, cells := 0, slots := 0, locals := rm.2 }) (mc := 0) (ms := 0) rfl rfl (by rw [F.2.2.2.2.2.2.2.1]; exact hR)
  have hcw : y.cls = C := hcc.symm
  rw [hcw] at cw
  exact fun H locs ls hP hD hZ hl => va_calll (va_runV F.1.1 (by have := hM H.size; rw [← F.2.2.2.2.2.2.2.2] at this; exact this) cw ⟨kP_blind, va_recv F.1.2 hP hcl hat, kx_pre F hP hD hZ⟩ rfl hn hl.1 hst (lv_room hroom) hdg ⟨Nat.zero_le _, Nat.zero_le _⟩) hZ (fun q _ h => va_free hD hZ F.2.2.1 (List.range (wn B)) (wd_all ..) q h) (va_free hD hZ F.2.2.1 (List.range (wn B)) (wd_all ..)) (fun r u t H1 locs1 ht hvm hpost hB hz hkk hS1 => by
    obtain ⟨z, rfl, hq⟩ := hpost
    obtain ⟨b1, b2⟩ := hB
    rw [ht] at b1
    have hD2 : va_D (xA X) (wD B G u) := ⟨b2.1, fun k q hq => va_free hD hZ F.2.2.1 (List.range (wn B)) (wd_all ..) _ (b2.2 k q hq)⟩
    exact kk z u hq H1 locs1 ls b1 hD2 hS1 hl)
theorem kx_Sl (pc' : Nat) (F : kF B G X l cc own nL ret R) {y : MethodName} {bytes : ByteArray} {mL n index : Nat} {rt : Option FieldType} {rm : Nat × Nat} {As st0 : List Value} {Q : Int → Mem → Prop} (vd : kSd own index y bytes mL rt n) (hM : KC B G l y bytes mL rt rm As M (fun A => kQl B G A Q)) (hR : rm.1 + 1 ≤ R.frames ∧ 8 + (mL + 11) + rm.2 ≤ R.locals) (hn : As.length = n) (hst : st0 = As.reverse ++ st) (hroom : (st.map fun v => v.category).sum ≤ 8) (hdg : decode cc pc = .ok (.invokestatic index, 3)) (hp : pc + 3 = pc') (kk : ∀ (z : Int) (N : Mem), Q z N → KJ B G X N pc' lo (vL z :: st)) : KJ B G X M pc lo st0 := by
  subst hp
  obtain ⟨d0, d1, d2, d3, d5⟩ := vd
  have cw := jy_cS (R := xR X) F.1 (tt_in d5) rfl d0 d1 d2 d3 (rm := { frames := rm.1, cells := 0, slots := 0, locals := rm.2 }) (mc := 0) (ms := 0) rfl rfl (by rw [F.2.2.2.2.2.2.2.1]; exact hR)
  exact fun H locs ls hP hD hZ hl => va_calll (va_runS F.1.1 (by have := hM H.size; rw [← F.2.2.2.2.2.2.2.2] at this; exact this) cw ⟨kP_blind, kx_pre F hP hD hZ⟩ rfl hn hl.1 hst (lv_room hroom) hdg ⟨Nat.zero_le _, Nat.zero_le _⟩) hZ (fun q _ h => va_free hD hZ F.2.2.1 (List.range (wn B)) (wd_all ..) q h) (va_free hD hZ F.2.2.1 (List.range (wn B)) (wd_all ..)) (fun r u t H1 locs1 ht hvm hpost hB hz hkk hS1 => by
    obtain ⟨z, rfl, hq⟩ := hpost
    obtain ⟨b1, b2⟩ := hB
    rw [ht] at b1
    have hD2 : va_D (xA X) (wD B G u) := ⟨b2.1, fun k q hq => va_free hD hZ F.2.2.1 (List.range (wn B)) (wd_all ..) _ (b2.2 k q hq)⟩
    exact kk z u hq H1 locs1 ls b1 hD2 hS1 hl)
theorem kx_Vv (pc' : Nat) (F : kF B G X l cc own nL ret R) {y : MethodName} {bytes : ByteArray} {mL n index : Nat} {rt : Option FieldType} {rm : Nat × Nat} {As st0 : List Value} {c : Int} {kn ci : Nat} {Q : Mem → Prop} (vd : kVd own index y bytes mL rt n) (hM : KC B G l y bytes mL rt rm (vR G c :: As) M (fun A => kQv B G A Q)) (hk : kd c = kn) (hw : kW B kn = true) (hA0 : kA kn = none) (hci : vwCl[kC kn]?.map (·.1) = some y.cls) (hR : rm.1 + 1 ≤ R.frames ∧ 8 + (mL + 11) + rm.2 ≤ R.locals) (hn : As.length = n) (hst : st0 = As.reverse ++ vR G c :: st) (hroom : (st.map fun v => v.category).sum ≤ 8) (hdg : decode cc pc = .ok (.invokevirtual index, 3)) (hp : pc + 3 = pc') (kk : ∀ N : Mem, Q N → KJ B G X N pc' lo st) : KJ B G X M pc lo st0 := by
  subst hp
  obtain ⟨d0, d1, d2, d3, d4, d5⟩ := vd
  have hat := wd_at (G := G) (M := M) (kin_of hk hw)
  rw [hk, ke_obj hA0] at hat
  obtain ⟨⟨C, T, N⟩, hcl, hcc⟩ : ∃ q, vwCl[kC kn]? = some q ∧ q.1 = y.cls := by
    cases hx : vwCl[kC kn]? with
    | none => rw [hx] at hci; cases hci
    | some q => rw [hx] at hci; exact ⟨q, rfl, by simpa using hci⟩
  have cw := jy_cV (R := xR X) F.1 (tt_in d5) rfl d0 d1 d2 d3 d4 (rm := { frames := rm.1, cells := 0, slots := 0, locals := rm.2 }) (mc := 0) (ms := 0) rfl rfl (by rw [F.2.2.2.2.2.2.2.1]; exact hR)
  have hcw : y.cls = C := hcc.symm
  rw [hcw] at cw
  exact fun H locs ls hP hD hZ hl => va_callv (va_runV F.1.1 (by have := hM H.size; rw [← F.2.2.2.2.2.2.2.2] at this; exact this) cw ⟨kP_blind, va_recv F.1.2 hP hcl hat, kx_pre F hP hD hZ⟩ rfl hn hl.1 hst (lv_room hroom) hdg ⟨Nat.zero_le _, Nat.zero_le _⟩) hZ (fun q _ h => va_free hD hZ F.2.2.1 (List.range (wn B)) (wd_all ..) q h) (va_free hD hZ F.2.2.1 (List.range (wn B)) (wd_all ..)) (fun u t H1 locs1 ht hvm hpost hB hz hkk hS1 => by
    obtain ⟨b1, b2⟩ := hB
    rw [ht] at b1
    have hD2 : va_D (xA X) (wD B G u) := ⟨b2.1, fun k q hq => va_free hD hZ F.2.2.1 (List.range (wn B)) (wd_all ..) _ (b2.2 k q hq)⟩
    exact kk u hpost H1 locs1 ls b1 hD2 hS1 hl)
theorem kx_Sv (pc' : Nat) (F : kF B G X l cc own nL ret R) {y : MethodName} {bytes : ByteArray} {mL n index : Nat} {rt : Option FieldType} {rm : Nat × Nat} {As st0 : List Value} {Q : Mem → Prop} (vd : kSd own index y bytes mL rt n) (hM : KC B G l y bytes mL rt rm As M (fun A => kQv B G A Q)) (hR : rm.1 + 1 ≤ R.frames ∧ 8 + (mL + 11) + rm.2 ≤ R.locals) (hn : As.length = n) (hst : st0 = As.reverse ++ st) (hroom : (st.map fun v => v.category).sum ≤ 8) (hdg : decode cc pc = .ok (.invokestatic index, 3)) (hp : pc + 3 = pc') (kk : ∀ N : Mem, Q N → KJ B G X N pc' lo st) : KJ B G X M pc lo st0 := by
  subst hp
  obtain ⟨d0, d1, d2, d3, d5⟩ := vd
  have cw := jy_cS (R := xR X) F.1 (tt_in d5) rfl d0 d1 d2 d3 (rm := { frames := rm.1, cells := 0, slots := 0, locals := rm.2 }) (mc := 0) (ms := 0) rfl rfl (by rw [F.2.2.2.2.2.2.2.1]; exact hR)
  exact fun H locs ls hP hD hZ hl => va_callv (va_runS F.1.1 (by have := hM H.size; rw [← F.2.2.2.2.2.2.2.2] at this; exact this) cw ⟨kP_blind, kx_pre F hP hD hZ⟩ rfl hn hl.1 hst (lv_room hroom) hdg ⟨Nat.zero_le _, Nat.zero_le _⟩) hZ (fun q _ h => va_free hD hZ F.2.2.1 (List.range (wn B)) (wd_all ..) q h) (va_free hD hZ F.2.2.1 (List.range (wn B)) (wd_all ..)) (fun u t H1 locs1 ht hvm hpost hB hz hkk hS1 => by
    obtain ⟨b1, b2⟩ := hB
    rw [ht] at b1
    have hD2 : va_D (xA X) (wD B G u) := ⟨b2.1, fun k q hq => va_free hD hZ F.2.2.1 (List.range (wn B)) (wd_all ..) _ (b2.2 k q hq)⟩
    exact kk u hpost H1 locs1 ls b1 hD2 hS1 hl)
theorem kx_Vr (pc' : Nat) (F : kF B G X l cc own nL ret R) {y : MethodName} {bytes : ByteArray} {mL n index : Nat} {rt : Option FieldType} {rm : Nat × Nat} {As st0 : List Value} {c : Int} {kn ci : Nat} {Q : Int → Mem → Prop} (vd : kVd own index y bytes mL rt n) (hM : KC B G l y bytes mL rt rm (vR G c :: As) M (fun A => kQr B G A Q)) (hk : kd c = kn) (hw : kW B kn = true) (hA0 : kA kn = none) (hci : vwCl[kC kn]?.map (·.1) = some y.cls) (hR : rm.1 + 1 ≤ R.frames ∧ 8 + (mL + 11) + rm.2 ≤ R.locals) (hn : As.length = n) (hst : st0 = As.reverse ++ vR G c :: st) (hroom : (st.map fun v => v.category).sum ≤ 8) (hdg : decode cc pc = .ok (.invokevirtual index, 3)) (hp : pc + 3 = pc') (kk : ∀ (z : Int) (N : Mem), Q z N → KJ B G X N pc' lo (vR G z :: st)) : KJ B G X M pc lo st0 := by
  subst hp
  obtain ⟨d0, d1, d2, d3, d4, d5⟩ := vd
  have hat := wd_at (G := G) (M := M) (kin_of hk hw)
  rw [hk, ke_obj hA0] at hat
  obtain ⟨⟨C, T, N⟩, hcl, hcc⟩ : ∃ q, vwCl[kC kn]? = some q ∧ q.1 = y.cls := by
    cases hx : vwCl[kC kn]? with
    | none => rw [hx] at hci; cases hci
    | some q => rw [hx] at hci; exact ⟨q, rfl, by simpa using hci⟩
  have cw := jy_cV (R := xR X) F.1 (tt_in d5) rfl d0 d1 d2 d3 d4 (rm := { frames := rm.1, cells := 0, slots := 0, locals := rm.2 }) (mc := 0) (ms := 0) rfl rfl (by rw [F.2.2.2.2.2.2.2.1]; exact hR)
  have hcw : y.cls = C := hcc.symm
  rw [hcw] at cw
  exact fun H locs ls hP hD hZ hl => va_callr (va_runV F.1.1 (by have := hM H.size; rw [← F.2.2.2.2.2.2.2.2] at this; exact this) cw ⟨kP_blind, va_recv F.1.2 hP hcl hat, kx_pre F hP hD hZ⟩ rfl hn hl.1 hst (lv_room hroom) hdg ⟨Nat.zero_le _, Nat.zero_le _⟩) hZ (fun q _ h => va_free hD hZ F.2.2.1 (List.range (wn B)) (wd_all ..) q h) (va_free hD hZ F.2.2.1 (List.range (wn B)) (wd_all ..)) (fun u ra t H1 locs1 ht hvm hpost hB hz hkk hS1 => by
    obtain ⟨rfl, b1, b2⟩ := hB
    rw [ht] at b1
    have hD2 : va_D (xA X) (wD B G u.2) := ⟨b2.1, fun k q hq => va_free hD hZ F.2.2.1 (List.range (wn B)) (wd_all ..) _ (b2.2 k q hq)⟩
    exact kk u.1 u.2 hpost H1 locs1 ls b1 hD2 hS1 hl)
theorem kx_drop (i : Nat) {lo' : List (Option Value)} (hlo : lo.set i none = lo') (k : KJ B G X M pc lo' st) : KJ B G X M pc lo st := by
  subst hlo
  exact fun H locs ls hP hD hZ hl => k H locs ls hP hD hZ (lv_mono hl (fun q hq => by
    obtain ⟨j, w⟩ := q
    have h := kl_mem.mp hq
    by_cases hj : i = j
    · subst hj; rw [List.getElem?_set] at h; simp only [if_true] at h; split at h <;> cases h
    · rw [List.getElem?_set_ne hj] at h; exact kl_mem.mpr h))
theorem kx_mmax (pc' : Nat) (F : kF B G X l cc own nL ret R) {index : Nat} {x y : Int} (hdg : decode cc pc = .ok (.invokestatic index, 3)) (h1 : Cond.methodLink own index Lib.Math.max.name ∈ TT) (h2 : Cond.static Lib.Math.max.name ∈ TT) (h3 : Cond.initialized "java/lang/Math" ∈ TT) (h4 : Cond.code Lib.Math.max.name Lib.Math.max.code 2 (some .int) ∈ TT) (hfr : 1 ≤ R.frames) (hlo : (st.map fun v => v.category).sum + 13 ≤ R.locals) (hx : -2147483648 ≤ x ∧ x ≤ 2147483647) (hy : -2147483648 ≤ y ∧ y ≤ 2147483647) (hp : pc + 3 = pc') (k : ∀ v : Int, (v = x ∨ v = y) ∧ x ≤ v ∧ y ≤ v → KJ B G X M pc' lo (vI v :: st)) : KJ B G X M pc lo (vI y :: vI x :: st) := by
  have hv : (if Int32.ofInt x < Int32.ofInt y then Int32.ofInt y else Int32.ofInt x) = Int32.ofInt (if x < y then y else x) := by
    by_cases h : x < y
    · rw [if_pos ((z_lt hx hy).mpr h), if_pos h]
    · rw [if_neg (fun q => h ((z_lt hx hy).mp q)), if_neg h]
  exact jy_mmax F.1 hdg h1 h2 h3 h4 (by rw [F.2.2.2.2.2.2.2.1]; exact hfr) (by rw [F.2.2.2.2.2.2.2.1]; exact hlo) (Nat.zero_le _) (Nat.zero_le _) hv hp (k _ (by split <;> omega))
theorem kx_mmin (pc' : Nat) (F : kF B G X l cc own nL ret R) {index : Nat} {x y : Int} (hdg : decode cc pc = .ok (.invokestatic index, 3)) (h1 : Cond.methodLink own index Lib.Math.min.name ∈ TT) (h2 : Cond.static Lib.Math.min.name ∈ TT) (h3 : Cond.initialized "java/lang/Math" ∈ TT) (h4 : Cond.code Lib.Math.min.name Lib.Math.min.code 2 (some .int) ∈ TT) (hfr : 1 ≤ R.frames) (hlo : (st.map fun v => v.category).sum + 13 ≤ R.locals) (hx : -2147483648 ≤ x ∧ x ≤ 2147483647) (hy : -2147483648 ≤ y ∧ y ≤ 2147483647) (hp : pc + 3 = pc') (k : ∀ v : Int, (v = x ∨ v = y) ∧ v ≤ x ∧ v ≤ y → KJ B G X M pc' lo (vI v :: st)) : KJ B G X M pc lo (vI y :: vI x :: st) := by
  have hv : (if Int32.ofInt y < Int32.ofInt x then Int32.ofInt y else Int32.ofInt x) = Int32.ofInt (if y < x then y else x) := by
    by_cases h : y < x
    · rw [if_pos ((z_lt hy hx).mpr h), if_pos h]
    · rw [if_neg (fun q => h ((z_lt hy hx).mp q)), if_neg h]
  exact jy_mmin F.1 hdg h1 h2 h3 h4 (by rw [F.2.2.2.2.2.2.2.1]; exact hfr) (by rw [F.2.2.2.2.2.2.2.1]; exact hlo) (Nat.zero_le _) (Nat.zero_le _) hv hp (k _ (by split <;> omega))
end KXR
