/-! THE CLAIM OUT OF ONE WALK OF THE LAW'S BODY. Your part is whole_start (and what it stands on); all else here is the same for every law, but numbers. -/
def R_law : String := "NestedCheckerLaw"
def lw_P (b : Addr) (xs : List Int32) (args : Array Value) (s : State) : Prop := args = #[.ref b] ∧ s.IntsAt b xs ∧ xs.length ≤ 3072 ∧ (Jvm.Cond.and given_1 narrow_1).before args s = true
def lw_Q (_ : Array Value) (s : State) (o : Outcome) (t : State) : Prop := o = .returned (some (.int 1)) ∧ Framed s o t [] 600000 7302250
def lw_Z (below : List Frame) (a : Array Value) (s : State) : State → Prop := fun t => ∃ o, t.status = .running ∧ Ended t below o ∧ lw_Q a s o t
/-- the law's own end, with 1 on the stack, nothing written that was there before, its room as the claim has it -/
theorem lw_ret {p : Program} {l : Launch} {e : Env} {s : State} {m : MethodId} {below : List Frame} {meth : Method} {c : Code} {b : Nat} (hx : p.tables.exec = Jvm.exec) (hb : c.code = code) (hr : meth.sig.returnType = ret) (hlocks : meth.locks = false) {pc : Nat} {H : Heap} {ls : Array Slot} (hdg : decode code pc = .ok (.ireturn, 1)) : W p l e room_1 s m #[Value.ref b] below meth c H [] 600000 7302250 (lw_Z below #[Value.ref b] s) (F0 m pc ls [.int 1]) := by
  intro T hT X
  obtain ⟨fs, hret, hrun, hended, hW, hframe⟩ := X.leave (v := some (.int 1)) (hlocks := hlocks) (fun h => by rw [hr] at h; cases h)
  have hmeth' : T.vm.method? m = some meth := X.method'
  refine ⟨T.setFrames fs, ?_, .returned (some (.int 1)), hrun, hended, rfl, ⟨_, rfl⟩, hW, hframe⟩
  jvm_step X.here [X.here.top, hx, hb, hdg, hmeth', hr, ret, narrow_b1]
  (try refine ⟨rfl, ?_⟩); (try refine ⟨rfl, ?_⟩)
  first | (intro acts; rw [hret _ acts rfl rfl rfl]) | rw [hret _ _ rfl rfl rfl]
  exact Steps.refl _
/-- what holds at the law's entry: the machine, the code, the tables' words (any of lw_tbl by 'hts w (by decide +kernel)'), the script of L ints xs at the cell b, what the Statement gives of the start (any of its parts by flat_of_before) -/
def lw_At (p : Program) (s : State) (m : MethodId) (meth : Method) (c : Code) (b L : Nat) (xs : Nat → Int32) : Prop :=
  p.tables.exec = Jvm.exec ∧ c.code = code ∧ meth.sig.returnType = ret ∧ c.maxLocals = 4 ∧ s.vm.findClass R_law = some m.cls ∧ (∀ w ∈ lw_tbl, w.before #[Value.ref b] s = true) ∧ va_X b L xs s s.heap ∧ b < s.heap.size ∧ meth.locks = false ∧ (Jvm.Cond.and given_1 narrow_1).before #[Value.ref b] s = true

/-! the law: two worlds beside each other -/
def LW (G : KG) (X : KX) (ce sl : Nat) (ws : va_W) (pc : Nat) (lo : List (Option Value)) (st : List Value) : Prop :=
  JJ (xp X) (xl X) (xe X) (xR X) (xs X) (xm X) (xa X) (xb X) (xh X) (xc X) (xQ X) (xn X) G.2.2.1 vwCl (xA X) (va_S (xA X) (xs X).heap) ce sl ws pc (kl lo) st
abbrev LJ (G : KG) (X : KX) (ce sl : Nat) (M N : Mem) (pc : Nat) (lo : List (Option Value)) (st : List Value) : Prop := LW G X ce sl (wD false G M ++ wD true G N) pc lo st
def LSq (X : KX) (b L : Nat) (sq : Nat → Int32) : Prop := va_X b L sq (xs X) (xs X).heap ∧ b < (xs X).heap.size ∧ ¬ xA X b
def sv (sq : Nat → Int32) (z : Int) : Int := (sq z.toNat).toInt
theorem sv_rng (sq : Nat → Int32) (z : Int) : -2147483648 ≤ sv sq z ∧ sv sq z ≤ 2147483647 := z_rng _
section KWR
variable {B : Bool} {G : KG} {X : KX} {l : Launch} {cc : ByteArray} {own : String} {nL : Nat} {ret : Option FieldType} {R : Room} {ws : va_W} {ce sl : Nat} {pc : Nat} {lo : List (Option Value)} {st : List Value}
theorem kw_iconst (pc' : Nat) (F : kF B G X l cc own nL ret R) {z : Int} (hdg : decode cc pc = .ok (.iconst z, 1)) (hp : pc + 1 = pc') (k : LW G X ce sl ws pc' lo (vI z :: st)) : LW G X ce sl ws pc lo st := jy_iconst F.1 hdg rfl hp k
theorem kw_bipush (pc' : Nat) (F : kF B G X l cc own nL ret R) {z : Int} (hdg : decode cc pc = .ok (.bipush z, 2)) (hv : (Int8.ofInt z).toInt32 = Int32.ofInt z) (hp : pc + 2 = pc') (k : LW G X ce sl ws pc' lo (vI z :: st)) : LW G X ce sl ws pc lo st := jy_bipush F.1 hdg hv hp k
theorem kw_iload_n (pc' : Nat) (F : kF B G X l cc own nL ret R) (i : Nat) {q : Fin 4} {x : Int} (hdg : decode cc pc = .ok (.iload_n q, 1)) (hi : (q : Nat) = i) (hq : lo[i]? = some (some (vI x))) (hp : pc + 1 = pc') (k : LW G X ce sl ws pc' lo (vI x :: st)) : LW G X ce sl ws pc lo st := by subst hp; exact fun H locs ls hP hD hZ hl => lv_iload_n F.1.1.1 F.1.1.2.1 hdg hi (kl_at hl hq) (k H locs ls hP hD hZ hl)
theorem kw_aload_n (pc' : Nat) (F : kF B G X l cc own nL ret R) (i : Nat) {q : Fin 4} {x : Nat} (hdg : decode cc pc = .ok (.aload_n q, 1)) (hi : (q : Nat) = i) (hq : lo[i]? = some (some (.ref x))) (hp : pc + 1 = pc') (k : LW G X ce sl ws pc' lo (.ref x :: st)) : LW G X ce sl ws pc lo st := by subst hp; exact fun H locs ls hP hD hZ hl => lv_aload_n F.1.1.1 F.1.1.2.1 hdg hi (kl_at hl hq) (k H locs ls hP hD hZ hl)
theorem kw_istore_n (pc' : Nat) (F : kF B G X l cc own nL ret R) (i : Nat) {q : Fin 4} {x : Int} {lo' : List (Option Value)} (hdg : decode cc pc = .ok (.istore_n q, 1)) (hi : (q : Nat) = i) (hn : i < nL) (hpr : kprev lo i = true) (hlo : (lo.set i (some (vI x))) = lo') (hp : pc + 1 = pc') (k : LW G X ce sl ws pc' lo' st) : LW G X ce sl ws pc lo (vI x :: st) := by subst hp; subst hlo; exact fun H locs ls hP hD hZ hl => lv_istore_n F.1.1.1 F.1.1.2.1 hdg hi hl (by rw [F.2.2.2.2.2.2.1]; exact hn) rfl (fun ls' hl' => k H locs ls' hP hD hZ (lv_mono hl' (kl_sto1 hpr)))
theorem kw_iinc (pc' : Nat) (F : kF B G X l cc own nL ret R) (i : Nat) {d x v : Int} {lo' : List (Option Value)} (hdg : decode cc pc = .ok (.iinc i d, 3)) (hq : lo[i]? = some (some (vI x))) (hv : x + d = v) (hn : i < nL) (hpr : kprev lo i = true) (hlo : (lo.set i (some (vI v))) = lo') (hp : pc + 3 = pc') (k : LW G X ce sl ws pc' lo' st) : LW G X ce sl ws pc lo st := by subst hp; subst hlo; subst hv; obtain ⟨q, hq'⟩ := List.mem_iff_getElem?.mp (kl_mem.mpr hq); exact fun H locs ls hP hD hZ hl => lv_iinc F.1.1.1 F.1.1.2.1 hdg hl hq' (z_add x d) (by rw [F.2.2.2.2.2.2.1]; exact hn) rfl (fun ls' hl' => k H locs ls' hP hD hZ (lv_mono hl' (kl_sto1 hpr)))
theorem kw_iadd (pc' : Nat) (F : kF B G X l cc own nL ret R) {x y v : Int} (hdg : decode cc pc = .ok (.iadd, 1)) (hv : x + y = v) (hp : pc + 1 = pc') (k : LW G X ce sl ws pc' lo (vI v :: st)) : LW G X ce sl ws pc lo (vI y :: vI x :: st) := by subst hv; exact jy_iadd F.1 hdg (z_add x y) hp k
theorem kw_isub (pc' : Nat) (F : kF B G X l cc own nL ret R) {x y v : Int} (hdg : decode cc pc = .ok (.isub, 1)) (hv : x - y = v) (hp : pc + 1 = pc') (k : LW G X ce sl ws pc' lo (vI v :: st)) : LW G X ce sl ws pc lo (vI y :: vI x :: st) := by subst hv; exact jy_isub F.1 hdg (z_sub x y) hp k
theorem kw_iand (pc' : Nat) (F : kF B G X l cc own nL ret R) {x y v : Int} (hdg : decode cc pc = .ok (.iand, 1)) (hv : zand x y = v) (hp : pc + 1 = pc') (k : LW G X ce sl ws pc' lo (vI v :: st)) : LW G X ce sl ws pc lo (vI y :: vI x :: st) := by subst hv; exact jy_iand F.1 hdg ((z_ofto _).symm) hp k
theorem kw_i2l (pc' : Nat) (F : kF B G X l cc own nL ret R) {x : Int} (hdg : decode cc pc = .ok (.i2l, 1)) (hx : -2147483648 ≤ x ∧ x ≤ 2147483647) (hp : pc + 1 = pc') (k : LW G X ce sl ws pc' lo (vL x :: st)) : LW G X ce sl ws pc lo (vI x :: st) := jy_i2l F.1 hdg (by apply Int64.toInt_inj.mp; rw [Int32.toInt_toInt64, z_to hx, zl_to ⟨by omega, by omega⟩]) hp k
theorem kw_ldc2 (pc' : Nat) (F : kF B G X l cc own nL ret R) {index : Nat} {z : Int} (hdg : decode cc pc = .ok (.ldc2_w index, 3)) (hw : Cond.constantLong own index (Int64.ofInt z) ∈ TT) (hp : pc + 3 = pc') (k : LW G X ce sl ws pc' lo (vL z :: st)) : LW G X ce sl ws pc lo st := jy_ldc2 F.1 hdg hw hp k
theorem kw_pop (pc' : Nat) (F : kF B G X l cc own nL ret R) {v : Value} (hdg : decode cc pc = .ok (.pop, 1)) (hv : v.category = 1) (hp : pc + 1 = pc') (k : LW G X ce sl ws pc' lo st) : LW G X ce sl ws pc lo (v :: st) := jy_pop F.1 hdg hv hp k
theorem kw_pop2 (pc' : Nat) (F : kF B G X l cc own nL ret R) {v : Value} (hdg : decode cc pc = .ok (.pop2, 1)) (hv : v.category = 2) (hp : pc + 1 = pc') (k : LW G X ce sl ws pc' lo st) : LW G X ce sl ws pc lo (v :: st) := by subst hp; exact fun H locs ls hP hD hZ hl => lv_pop2_2 F.1.1.1 F.1.1.2.1 hdg hv (k H locs ls hP hD hZ hl)
theorem kw_if_eq (pc' : Nat) (F : kF B G X l cc own nL ret R) (tgt : Nat) {x : Int} {off : Int} (hdg : decode cc pc = .ok (.ifCond .eq off, 3)) (ht : (pc : Int) + off = (tgt : Int)) (hp : pc + 3 = pc') (hx : -2147483648 ≤ x ∧ x ≤ 2147483647) (kt : x = 0 → LW G X ce sl ws tgt lo st) (kf : ¬ x = 0 → LW G X ce sl ws pc' lo st) : LW G X ce sl ws pc lo (vI x :: st) := by
  have hy : -2147483648 ≤ (0 : Int) ∧ (0 : Int) ≤ 2147483647 := by omega
  exact jy_if_eq F.1 hdg ht hp (fun h => kt ((z_eq hx hy).mp h)) (fun h => kf (fun e => h ((z_eq hx hy).mpr e)))
theorem kw_icmp_gt (pc' : Nat) (F : kF B G X l cc own nL ret R) (tgt : Nat) {x y : Int} {off : Int} (hdg : decode cc pc = .ok (.if_icmp .gt off, 3)) (ht : (pc : Int) + off = (tgt : Int)) (hp : pc + 3 = pc') (hx : -2147483648 ≤ x ∧ x ≤ 2147483647) (hy : -2147483648 ≤ y ∧ y ≤ 2147483647) (kt : y < x → LW G X ce sl ws tgt lo st) (kf : x ≤ y → LW G X ce sl ws pc' lo st) : LW G X ce sl ws pc lo (vI y :: vI x :: st) := jy_icmp_gt F.1 hdg ht hp (fun h => kt ((z_lt hy hx).mp h)) (fun h => kf (Int.not_lt.mp (fun e => h ((z_lt hy hx).mpr e))))
theorem kw_icmp_eq (pc' : Nat) (F : kF B G X l cc own nL ret R) (tgt : Nat) {x y : Int} {off : Int} (hdg : decode cc pc = .ok (.if_icmp .eq off, 3)) (ht : (pc : Int) + off = (tgt : Int)) (hp : pc + 3 = pc') (hx : -2147483648 ≤ x ∧ x ≤ 2147483647) (hy : -2147483648 ≤ y ∧ y ≤ 2147483647) (kt : x = y → LW G X ce sl ws tgt lo st) (kf : ¬ x = y → LW G X ce sl ws pc' lo st) : LW G X ce sl ws pc lo (vI y :: vI x :: st) := jy_icmp_eq F.1 hdg ht hp (fun h => kt ((z_eq hx hy).mp h)) (fun h => kf (fun e => h ((z_eq hx hy).mpr e)))
theorem kw_goto (tgt : Nat) (F : kF B G X l cc own nL ret R) {off : Int} (hdg : decode cc pc = .ok (.goto off, 3)) (ht : (pc : Int) + off = (tgt : Int)) (k : LW G X ce sl ws tgt lo st) : LW G X ce sl ws pc lo st := jy_goto F.1 hdg ht k
theorem kw_tableIn (tgt : Nat) (F : kF B G X l cc own nL ret R) {dflt l0 hi : Int} {offs : Array Int} {len : Nat} {x off : Int} (hx : -2147483648 ≤ x ∧ x ≤ 2147483647) (hdg : decode cc pc = .ok (.tableswitch dflt l0 hi offs, len)) (h1 : l0 ≤ x ∧ x ≤ hi) (ho : offs[(x - l0).toNat]? = some off) (ht : (pc : Int) + off = (tgt : Int)) (k : LW G X ce sl ws tgt lo st) : LW G X ce sl ws pc lo (vI x :: st) := jy_tableIn F.1 hdg (by rw [z_to hx]; omega) (by rw [z_to hx]; omega) (by rw [z_to hx]; exact ho) ht k
theorem kw_tableOut (tgt : Nat) (F : kF B G X l cc own nL ret R) {dflt l0 hi : Int} {offs : Array Int} {len : Nat} {x : Int} (hx : -2147483648 ≤ x ∧ x ≤ 2147483647) (hdg : decode cc pc = .ok (.tableswitch dflt l0 hi offs, len)) (h1 : x < l0 ∨ hi < x) (ht : (pc : Int) + dflt = (tgt : Int)) (k : LW G X ce sl ws tgt lo st) : LW G X ce sl ws pc lo (vI x :: st) := jy_tableOut F.1 hdg (by rw [z_to hx]; exact h1) ht k
def zLl (x y : Int) : Int := (Int64.ofInt x <<< ((Int32.ofInt y).toInt64 &&& 63)).toInt
def zLa (x y : Int) : Int := (Int64.ofInt x &&& Int64.ofInt y).toInt
def zLo (x y : Int) : Int := (Int64.ofInt x ||| Int64.ofInt y).toInt
theorem kw_lshlE (pc' : Nat) (F : kF B G X l cc own nL ret R) {x y : Int} (hdg : decode cc pc = .ok (.lshl, 1)) (hp : pc + 1 = pc') (k : (-9223372036854775808 ≤ zLl x y ∧ zLl x y ≤ 9223372036854775807) → LW G X ce sl ws pc' lo (vL (zLl x y) :: st)) : LW G X ce sl ws pc lo (vI y :: vL x :: st) := jy_lshl F.1 hdg (zl_ofto _).symm hp (k (zl_rng _))
theorem kw_landE (pc' : Nat) (F : kF B G X l cc own nL ret R) {x y : Int} (hdg : decode cc pc = .ok (.land, 1)) (hp : pc + 1 = pc') (k : (-9223372036854775808 ≤ zLa x y ∧ zLa x y ≤ 9223372036854775807) → LW G X ce sl ws pc' lo (vL (zLa x y) :: st)) : LW G X ce sl ws pc lo (vL y :: vL x :: st) := jy_land F.1 hdg (zl_ofto _).symm hp (k (zl_rng _))
theorem kw_lorE (pc' : Nat) (F : kF B G X l cc own nL ret R) {x y : Int} (hdg : decode cc pc = .ok (.lor, 1)) (hp : pc + 1 = pc') (k : (-9223372036854775808 ≤ zLo x y ∧ zLo x y ≤ 9223372036854775807) → LW G X ce sl ws pc' lo (vL (zLo x y) :: st)) : LW G X ce sl ws pc lo (vL y :: vL x :: st) := jy_lor F.1 hdg (zl_ofto _).symm hp (k (zl_rng _))
theorem kw_sld (pc' : Nat) (F : kF B G X l cc own nL ret R) {b L : Nat} {sq : Nat → Int32} {z : Int} (S : LSq X b L sq) (hL : L ≤ 3072) (hz : 0 ≤ z ∧ z < L) (hdg : decode cc pc = .ok (.iaload, 1)) (hp : pc + 1 = pc') (k : LW G X ce sl ws pc' lo (vI (sv sq z) :: st)) : LW G X ce sl ws pc lo (vI z :: .ref b :: st) := by
  subst hp
  exact fun H locs ls hP hD hZ hl => va_sld F.1.1.1 F.1.1.2.1 S.1 S.2.1 S.2.2 hZ (z_in hz.1 hz.2 (by omega)) hdg (by rw [z_nat ⟨hz.1, by omega⟩, ← z_ofto (sq z.toNat)]; exact k H locs ls hP hD hZ hl)
theorem kw_slen (pc' : Nat) (F : kF B G X l cc own nL ret R) {b L : Nat} {sq : Nat → Int32} (S : LSq X b L sq) (hdg : decode cc pc = .ok (.arraylength, 1)) (hp : pc + 1 = pc') (k : LW G X ce sl ws pc' lo (vI L :: st)) : LW G X ce sl ws pc lo (.ref b :: st) := by
  subst hp
  exact fun H locs ls hP hD hZ hl => va_slen F.1.1.1 F.1.1.2.1 S.1 S.2.1 S.2.2 hZ hdg (by have q := k H locs ls hP hD hZ hl; rw [show vI (L : Int) = Value.int (Int32.ofNat L) from rfl] at q; exact q)
theorem ap_l (A B : va_W) : (List.range A.length).map (fun i => (A ++ B)[i]?) = A.map some := by
  apply List.ext_getElem?
  intro j
  by_cases h : j < A.length
  · simp [List.getElem?_range h, List.getElem?_append_left h, h]
  · simp [List.getElem?_eq_none (Nat.le_of_not_lt h), h]
theorem ap_r (A B : va_W) : ((List.range B.length).map (· + A.length)).map (fun i => (A ++ B)[i]?) = B.map some := by
  apply List.ext_getElem?
  intro j
  by_cases h : j < B.length
  · simp [List.getElem?_range h, h]
    rw [List.getElem?_append_right (Nat.le_add_left _ _), Nat.add_sub_cancel]
    exact List.getElem?_eq_getElem h
  · simp [List.getElem?_eq_none (Nat.le_of_not_lt h), h]
theorem ap_x (A B : va_W) : ((List.range A.length).map (· + B.length) ++ List.range B.length).map (fun i => (B ++ A)[i]?) = (A ++ B).map some := by
  rw [List.map_append, ap_r, ap_l, List.map_append]
theorem nd_r : va_nd ((List.range 31).map (· + 163)) = true := by decide +kernel
theorem nd_x : va_nd ((List.range 163).map (· + 31) ++ List.range 31) = true := by decide +kernel
theorem dj_1 : ∀ i ∈ (List.range 31).map (· + 163), i ∉ List.range 163 := by
  intro i h1 h2
  obtain ⟨j, -, rfl⟩ := List.mem_map.mp h1
  have := List.mem_range.mp h2
  omega
theorem dj_2 : ∀ i ∈ List.range 163, i ∉ (List.range 31).map (· + 163) := fun i h1 h2 => dj_1 i h2 h1
theorem ap_C (G : KG) (M N : Mem) : (List.range 163).map (fun i => (wD false G M ++ wD true G N)[i]?) = (wD false G M).map some := by
  have h := ap_l (wD false G M) (wD true G N); rw [show (wD false G M).length = 163 from wd_len ..] at h; exact h
theorem ap_R (G : KG) (M N : Mem) : ((List.range 31).map (· + 163)).map (fun i => (wD false G M ++ wD true G N)[i]?) = (wD true G N).map some := by
  have h := ap_r (wD false G M) (wD true G N); rw [show (wD false G M).length = 163 from wd_len .., show (wD true G N).length = 31 from wd_len ..] at h; exact h
theorem ap_X (G : KG) (M N : Mem) : ((List.range 163).map (· + 31) ++ List.range 31).map (fun i => (wD true G N ++ wD false G M)[i]?) = (wD false G M ++ wD true G N).map some := by
  have h := ap_x (wD false G M) (wD true G N); rw [show (wD false G M).length = 163 from wd_len .., show (wD true G N).length = 31 from wd_len ..] at h; exact h
theorem kw_pre {ws : va_W} {D : Bool} {M : Mem} (F : kF B G X l cc own nL ret R) {H : Heap} {locs : List Loc} {av : List Value} (isC : List Nat) (hC : isC.map (fun i => ws[i]?) = (wD D G M).map some) (hd : va_nd isC = true) (hP : va_P G.2.2.1 vwCl ws H) (hD : va_D (xA X) ws) (hZ : va_S (xA X) (xs X).heap H locs) : ∀ U : State, U.heap = H → (xs X).WarmedH U.vm → kP D G av M H.size av.toArray U := fun U hU hW => ⟨jy_pre F.1 F.2.1 hP hD isC hC hd U hU hW, F.2.2.2.1.to hZ (va_free hD hZ F.2.2.1 isC hC) hU hW⟩
theorem tr_u {r r2 a1 a2 a3 : Int} (h : (r = 1 ∧ 0 ≤ a1 ∧ a1 ≤ 3 ∧ 0 ≤ a2 ∧ a2 ≤ 3 ∧ 0 ≤ a3 ∧ a3 ≤ 60) ∨ (r = 0 ∧ a1 < 0) ∨ (r = 0 ∧ a1 > 3) ∨ (r = 0 ∧ a2 < 0) ∨ (r = 0 ∧ a2 > 3) ∨ (r = 0 ∧ a3 < 0) ∨ (r = 0 ∧ a3 > 60)) (h' : (r2 = 1 ∧ 0 ≤ a1 ∧ a1 ≤ 3 ∧ 0 ≤ a2 ∧ a2 ≤ 3 ∧ 0 ≤ a3 ∧ a3 ≤ 60) ∨ (r2 = 0 ∧ a1 < 0) ∨ (r2 = 0 ∧ a1 > 3) ∨ (r2 = 0 ∧ a2 < 0) ∨ (r2 = 0 ∧ a2 > 3) ∨ (r2 = 0 ∧ a3 < 0) ∨ (r2 = 0 ∧ a3 > 60)) : r = r2 := by
  rcases h with h | h | h | h | h | h | h <;> rcases h' with h' | h' | h' | h' | h' | h' | h' <;> omega
theorem wr_u {r r2 a1 a2 P : Int} (h : (r = 1 ∧ 0 ≤ a1 ∧ a1 ≤ 3 ∧ 0 ≤ a2 ∧ a2 < P ∧ a2 ≤ 59) ∨ (r = 0 ∧ a1 < 0) ∨ (r = 0 ∧ a1 > 3) ∨ (r = 0 ∧ 0 ≤ a1 ∧ a1 ≤ 3 ∧ P = -1) ∨ (r = 0 ∧ 0 ≤ a1 ∧ a1 ≤ 3 ∧ a2 < 0) ∨ (r = 0 ∧ 0 ≤ a1 ∧ a1 ≤ 3 ∧ a2 ≥ P)) (h' : (r2 = 1 ∧ 0 ≤ a1 ∧ a1 ≤ 3 ∧ 0 ≤ a2 ∧ a2 < P ∧ a2 ≤ 59) ∨ (r2 = 0 ∧ a1 < 0) ∨ (r2 = 0 ∧ a1 > 3) ∨ (r2 = 0 ∧ 0 ≤ a1 ∧ a1 ≤ 3 ∧ P = -1) ∨ (r2 = 0 ∧ 0 ≤ a1 ∧ a1 ≤ 3 ∧ a2 < 0) ∨ (r2 = 0 ∧ 0 ≤ a1 ∧ a1 ≤ 3 ∧ a2 ≥ P)) : r = r2 := by
  rcases h with h | h | h | h | h | h <;> rcases h' with h' | h' | h' | h' | h' | h' <;> omega
theorem wr_r {r a1 a2 P : Int} (h : (r = 1 ∧ 0 ≤ a1 ∧ a1 ≤ 3 ∧ 0 ≤ a2 ∧ a2 < P ∧ a2 ≤ 59) ∨ (r = 0 ∧ a1 < 0) ∨ (r = 0 ∧ a1 > 3) ∨ (r = 0 ∧ 0 ≤ a1 ∧ a1 ≤ 3 ∧ P = -1) ∨ (r = 0 ∧ 0 ≤ a1 ∧ a1 ≤ 3 ∧ a2 < 0) ∨ (r = 0 ∧ 0 ≤ a1 ∧ a1 ≤ 3 ∧ a2 ≥ P)) : 0 ≤ r ∧ r ≤ 1 := by
  rcases h with h | h | h | h | h | h <;> omega
theorem kw_VCi (pc' : Nat) (F : kF B G X l cc own nL ret R) {M N : Mem} {y : MethodName} {bytes : ByteArray} {mL n index : Nat} {rt : Option FieldType} {rm : Nat × Nat} {As st0 : List Value} {c : Int} {kn : Nat} {Q : Int → Mem → Prop} (vd : kVd own index y bytes mL rt n) (hM : KC false G l y bytes mL rt rm (vR G c :: As) M (fun A => kQi false G A Q)) (hk : kd c = kn) (hw : kW false kn = true) (hA0 : kA kn = none) (hci : vwCl[kC kn]?.map (·.1) = some y.cls) (hR : rm.1 + 1 ≤ R.frames ∧ 8 + (mL + 11) + rm.2 ≤ R.locals) (hn : As.length = n) (hst : st0 = As.reverse ++ vR G c :: st) (hroom : (st.map fun v => v.category).sum ≤ 8) (hdg : decode cc pc = .ok (.invokevirtual index, 3)) (hp : pc + 3 = pc') (hcr : ce ≤ R.cells ∧ sl ≤ R.slots) (kk : ∀ (z : Int) (M' : Mem), Q z M' → LJ G X ce sl M' N pc' lo (vI z :: st)) : LJ G X ce sl M N pc lo st0 := by
  subst hp
  obtain ⟨d0, d1, d2, d3, d4, d5⟩ := vd
  have hat0 := wd_at (G := G) (M := M) (kin_of hk hw)
  rw [hk, ke_obj hA0] at hat0
  have hat : (wD false G M ++ wD true G N)[(c - wb false).toNat]? = some (G.2.1 c, .inr (kC kn, (List.range (kN kn)).map (fun (i : Nat) => kv G (kT kn i) (M c i)))) := by
    rw [List.getElem?_append_left (by rw [wd_len]; have := kin_of hk hw; unfold kin at this; omega)]; exact hat0
  obtain ⟨⟨C, T, N0⟩, hcl, hcc⟩ : ∃ q, vwCl[kC kn]? = some q ∧ q.1 = y.cls := by
    cases hx : vwCl[kC kn]? with
    | none => rw [hx] at hci; cases hci
    | some q => rw [hx] at hci; exact ⟨q, rfl, by simpa using hci⟩
  have cw := jy_cV (R := xR X) F.1 (tt_in d5) rfl d0 d1 d2 d3 d4 (rm := { frames := rm.1, cells := 0, slots := 0, locals := rm.2 }) (mc := 0) (ms := 0) rfl rfl (by rw [F.2.2.2.2.2.2.2.1]; exact hR)
  have hcw : y.cls = C := hcc.symm
  rw [hcw] at cw
  have hrun : jy_Run (xp X) (xl X) (xe X) (xR X) (xs X) (xm X) (xa X) (xb X) (xh X) (xc X) (xn X) G.2.2.1 vwCl (xA X) (va_S (xA X) (xs X).heap) ce sl 0 0 (wD false G M ++ wD true G N) pc (kl lo) st0 st (vR G c :: As).toArray (fun sz => va_Qi (fun (r : Int32) (U : Mem) => ∃ z, r = Int32.ofInt z ∧ Q z U) (jy_B G.2.2.1 vwCl (va_A (wD false G M) sz) (fun U => wD false G U)) (va_A (wD false G M) sz)) (fun sz => va_A (wD false G M) sz) := fun H locs ls hP hD hZ hl =>
    va_runV F.1.1 (by have := hM H.size; rw [← F.2.2.2.2.2.2.2.2] at this; exact this) cw ⟨kP_blind, va_recv F.1.2 hP hcl hat, kw_pre F (List.range 163) (ap_C G M N) (nd_range _) hP hD hZ⟩ rfl hn hl.1 hst (lv_room hroom) hdg (by rw [F.2.2.2.2.2.2.2.1]; exact hcr)
  refine jy_calli (wr := wD true G N) F.2.2.1 (List.range 163) ((List.range 31).map (· + 163)) (ap_C G M N) (ap_R G M N) nd_r dj_1 hrun rfl rfl rfl ?_
  rintro r U ⟨z, rfl, hq⟩
  exact jy_sub _ (ap_X G U N) nd_x (kk z U hq)
theorem kw_VMi (pc' : Nat) (F : kF B G X l cc own nL ret R) {M N : Mem} {y : MethodName} {bytes : ByteArray} {mL n index : Nat} {rt : Option FieldType} {rm : Nat × Nat} {As st0 : List Value} {c : Int} {kn : Nat} {Q : Int → Mem → Prop} (vd : kVd own index y bytes mL rt n) (hM : KC true G l y bytes mL rt rm (vR G c :: As) N (fun A => kQi true G A Q)) (hk : kd c = kn) (hw : kW true kn = true) (hA0 : kA kn = none) (hci : vwCl[kC kn]?.map (·.1) = some y.cls) (hR : rm.1 + 1 ≤ R.frames ∧ 8 + (mL + 11) + rm.2 ≤ R.locals) (hn : As.length = n) (hst : st0 = As.reverse ++ vR G c :: st) (hroom : (st.map fun v => v.category).sum ≤ 8) (hdg : decode cc pc = .ok (.invokevirtual index, 3)) (hp : pc + 3 = pc') (hcr : ce ≤ R.cells ∧ sl ≤ R.slots) (kk : ∀ (z : Int) (N' : Mem), Q z N' → LJ G X ce sl M N' pc' lo (vI z :: st)) : LJ G X ce sl M N pc lo st0 := by
  subst hp
  obtain ⟨d0, d1, d2, d3, d4, d5⟩ := vd
  have hat0 := wd_at (G := G) (M := N) (kin_of hk hw)
  rw [hk, ke_obj hA0] at hat0
  have hat : (wD false G M ++ wD true G N)[163 + (c - wb true).toNat]? = some (G.2.1 c, .inr (kC kn, (List.range (kN kn)).map (fun (i : Nat) => kv G (kT kn i) (N c i)))) := by
    rw [List.getElem?_append_right (by rw [wd_len]; exact Nat.le_add_right 163 _), wd_len, show 163 + (c - wb true).toNat - wn false = (c - wb true).toNat from Nat.add_sub_cancel_left ..]; exact hat0
  obtain ⟨⟨C, T, N0⟩, hcl, hcc⟩ : ∃ q, vwCl[kC kn]? = some q ∧ q.1 = y.cls := by
    cases hx : vwCl[kC kn]? with
    | none => rw [hx] at hci; cases hci
    | some q => rw [hx] at hci; exact ⟨q, rfl, by simpa using hci⟩
  have cw := jy_cV (R := xR X) F.1 (tt_in d5) rfl d0 d1 d2 d3 d4 (rm := { frames := rm.1, cells := 0, slots := 0, locals := rm.2 }) (mc := 0) (ms := 0) rfl rfl (by rw [F.2.2.2.2.2.2.2.1]; exact hR)
  have hcw : y.cls = C := hcc.symm
  rw [hcw] at cw
  have hrun : jy_Run (xp X) (xl X) (xe X) (xR X) (xs X) (xm X) (xa X) (xb X) (xh X) (xc X) (xn X) G.2.2.1 vwCl (xA X) (va_S (xA X) (xs X).heap) ce sl 0 0 (wD false G M ++ wD true G N) pc (kl lo) st0 st (vR G c :: As).toArray (fun sz => va_Qi (fun (r : Int32) (U : Mem) => ∃ z, r = Int32.ofInt z ∧ Q z U) (jy_B G.2.2.1 vwCl (va_A (wD true G N) sz) (fun U => wD true G U)) (va_A (wD true G N) sz)) (fun sz => va_A (wD true G N) sz) := fun H locs ls hP hD hZ hl =>
    va_runV F.1.1 (by have := hM H.size; rw [← F.2.2.2.2.2.2.2.2] at this; exact this) cw ⟨kP_blind, va_recv F.1.2 hP hcl hat, kw_pre F ((List.range 31).map (· + 163)) (ap_R G M N) nd_r hP hD hZ⟩ rfl hn hl.1 hst (lv_room hroom) hdg (by rw [F.2.2.2.2.2.2.2.1]; exact hcr)
  refine jy_calli (wr := wD false G M) F.2.2.1 ((List.range 31).map (· + 163)) (List.range 163) (ap_R G M N) (ap_C G M N) (nd_range _) dj_2 hrun rfl rfl rfl ?_
  rintro r U ⟨z, rfl, hq⟩
  exact kk z U hq
theorem kw_VCl (pc' : Nat) (F : kF B G X l cc own nL ret R) {M N : Mem} {y : MethodName} {bytes : ByteArray} {mL n index : Nat} {rt : Option FieldType} {rm : Nat × Nat} {As st0 : List Value} {c : Int} {kn : Nat} {Q : Int → Mem → Prop} (vd : kVd own index y bytes mL rt n) (hM : KC false G l y bytes mL rt rm (vR G c :: As) M (fun A => kQl false G A Q)) (hk : kd c = kn) (hw : kW false kn = true) (hA0 : kA kn = none) (hci : vwCl[kC kn]?.map (·.1) = some y.cls) (hR : rm.1 + 1 ≤ R.frames ∧ 8 + (mL + 11) + rm.2 ≤ R.locals) (hn : As.length = n) (hst : st0 = As.reverse ++ vR G c :: st) (hroom : (st.map fun v => v.category).sum ≤ 8) (hdg : decode cc pc = .ok (.invokevirtual index, 3)) (hp : pc + 3 = pc') (hcr : ce ≤ R.cells ∧ sl ≤ R.slots) (kk : ∀ (z : Int) (M' : Mem), Q z M' → LJ G X ce sl M' N pc' lo (vL z :: st)) : LJ G X ce sl M N pc lo st0 := by
  subst hp
  obtain ⟨d0, d1, d2, d3, d4, d5⟩ := vd
  have hat0 := wd_at (G := G) (M := M) (kin_of hk hw)
  rw [hk, ke_obj hA0] at hat0
  have hat : (wD false G M ++ wD true G N)[(c - wb false).toNat]? = some (G.2.1 c, .inr (kC kn, (List.range (kN kn)).map (fun (i : Nat) => kv G (kT kn i) (M c i)))) := by
    rw [List.getElem?_append_left (by rw [wd_len]; have := kin_of hk hw; unfold kin at this; omega)]; exact hat0
  obtain ⟨⟨C, T, N0⟩, hcl, hcc⟩ : ∃ q, vwCl[kC kn]? = some q ∧ q.1 = y.cls := by
    cases hx : vwCl[kC kn]? with
    | none => rw [hx] at hci; cases hci
    | some q => rw [hx] at hci; exact ⟨q, rfl, by simpa using hci⟩
  have cw := jy_cV (R := xR X) F.1 (tt_in d5) rfl d0 d1 d2 d3 d4 (rm := { frames := rm.1, cells := 0, slots := 0, locals := rm.2 }) (mc := 0) (ms := 0) rfl rfl (by rw [F.2.2.2.2.2.2.2.1]; exact hR)
  have hcw : y.cls = C := hcc.symm
  rw [hcw] at cw
  have hrun : jy_Run (xp X) (xl X) (xe X) (xR X) (xs X) (xm X) (xa X) (xb X) (xh X) (xc X) (xn X) G.2.2.1 vwCl (xA X) (va_S (xA X) (xs X).heap) ce sl 0 0 (wD false G M ++ wD true G N) pc (kl lo) st0 st (vR G c :: As).toArray (fun sz => va_Ql (fun (r : Int64) (U : Mem) => ∃ z, r = Int64.ofInt z ∧ Q z U) (jy_B G.2.2.1 vwCl (va_A (wD false G M) sz) (fun U => wD false G U)) (va_A (wD false G M) sz)) (fun sz => va_A (wD false G M) sz) := fun H locs ls hP hD hZ hl =>
    va_runV F.1.1 (by have := hM H.size; rw [← F.2.2.2.2.2.2.2.2] at this; exact this) cw ⟨kP_blind, va_recv F.1.2 hP hcl hat, kw_pre F (List.range 163) (ap_C G M N) (nd_range _) hP hD hZ⟩ rfl hn hl.1 hst (lv_room hroom) hdg (by rw [F.2.2.2.2.2.2.2.1]; exact hcr)
  refine jy_calll (wr := wD true G N) F.2.2.1 (List.range 163) ((List.range 31).map (· + 163)) (ap_C G M N) (ap_R G M N) nd_r dj_1 hrun rfl rfl rfl ?_
  rintro r U ⟨z, rfl, hq⟩
  exact jy_sub _ (ap_X G U N) nd_x (kk z U hq)
theorem kw_VMl (pc' : Nat) (F : kF B G X l cc own nL ret R) {M N : Mem} {y : MethodName} {bytes : ByteArray} {mL n index : Nat} {rt : Option FieldType} {rm : Nat × Nat} {As st0 : List Value} {c : Int} {kn : Nat} {Q : Int → Mem → Prop} (vd : kVd own index y bytes mL rt n) (hM : KC true G l y bytes mL rt rm (vR G c :: As) N (fun A => kQl true G A Q)) (hk : kd c = kn) (hw : kW true kn = true) (hA0 : kA kn = none) (hci : vwCl[kC kn]?.map (·.1) = some y.cls) (hR : rm.1 + 1 ≤ R.frames ∧ 8 + (mL + 11) + rm.2 ≤ R.locals) (hn : As.length = n) (hst : st0 = As.reverse ++ vR G c :: st) (hroom : (st.map fun v => v.category).sum ≤ 8) (hdg : decode cc pc = .ok (.invokevirtual index, 3)) (hp : pc + 3 = pc') (hcr : ce ≤ R.cells ∧ sl ≤ R.slots) (kk : ∀ (z : Int) (N' : Mem), Q z N' → LJ G X ce sl M N' pc' lo (vL z :: st)) : LJ G X ce sl M N pc lo st0 := by
  subst hp
  obtain ⟨d0, d1, d2, d3, d4, d5⟩ := vd
  have hat0 := wd_at (G := G) (M := N) (kin_of hk hw)
  rw [hk, ke_obj hA0] at hat0
  have hat : (wD false G M ++ wD true G N)[163 + (c - wb true).toNat]? = some (G.2.1 c, .inr (kC kn, (List.range (kN kn)).map (fun (i : Nat) => kv G (kT kn i) (N c i)))) := by
    rw [List.getElem?_append_right (by rw [wd_len]; exact Nat.le_add_right 163 _), wd_len, show 163 + (c - wb true).toNat - wn false = (c - wb true).toNat from Nat.add_sub_cancel_left ..]; exact hat0
  obtain ⟨⟨C, T, N0⟩, hcl, hcc⟩ : ∃ q, vwCl[kC kn]? = some q ∧ q.1 = y.cls := by
    cases hx : vwCl[kC kn]? with
    | none => rw [hx] at hci; cases hci
    | some q => rw [hx] at hci; exact ⟨q, rfl, by simpa using hci⟩
  have cw := jy_cV (R := xR X) F.1 (tt_in d5) rfl d0 d1 d2 d3 d4 (rm := { frames := rm.1, cells := 0, slots := 0, locals := rm.2 }) (mc := 0) (ms := 0) rfl rfl (by rw [F.2.2.2.2.2.2.2.1]; exact hR)
  have hcw : y.cls = C := hcc.symm
  rw [hcw] at cw
  have hrun : jy_Run (xp X) (xl X) (xe X) (xR X) (xs X) (xm X) (xa X) (xb X) (xh X) (xc X) (xn X) G.2.2.1 vwCl (xA X) (va_S (xA X) (xs X).heap) ce sl 0 0 (wD false G M ++ wD true G N) pc (kl lo) st0 st (vR G c :: As).toArray (fun sz => va_Ql (fun (r : Int64) (U : Mem) => ∃ z, r = Int64.ofInt z ∧ Q z U) (jy_B G.2.2.1 vwCl (va_A (wD true G N) sz) (fun U => wD true G U)) (va_A (wD true G N) sz)) (fun sz => va_A (wD true G N) sz) := fun H locs ls hP hD hZ hl =>
    va_runV F.1.1 (by have := hM H.size; rw [← F.2.2.2.2.2.2.2.2] at this; exact this) cw ⟨kP_blind, va_recv F.1.2 hP hcl hat, kw_pre F ((List.range 31).map (· + 163)) (ap_R G M N) nd_r hP hD hZ⟩ rfl hn hl.1 hst (lv_room hroom) hdg (by rw [F.2.2.2.2.2.2.2.1]; exact hcr)
  refine jy_calll (wr := wD false G M) F.2.2.1 ((List.range 31).map (· + 163)) (List.range 163) (ap_R G M N) (ap_C G M N) (nd_range _) dj_2 hrun rfl rfl rfl ?_
  rintro r U ⟨z, rfl, hq⟩
  exact kk z U hq
end KWR
theorem kd_0 : kd 0 = 62 := by decide +kernel
theorem kd_x1 : kd 1 = 13 := by decide +kernel
theorem kd_x3 : kd 3 = 15 := by decide +kernel
theorem kd_x4 : kd 4 = 16 := by decide +kernel
theorem kd_x5 : kd 5 = 17 := by decide +kernel
theorem kd_y5 : kd 166 = 67 := by decide +kernel
theorem kd_y6 : kd 167 = 68 := by decide +kernel
theorem un_T {c : Int} (h : kd c = 13) : c = 1 := kd_one 1 13 (by decide +kernel) (by decide) h
theorem un_S {c : Int} (h : kd c = 15) : c = 3 := kd_one 3 15 (by decide +kernel) (by decide) h
theorem un_P {c : Int} (h : kd c = 16) : c = 4 := kd_one 4 16 (by decide +kernel) (by decide) h
theorem un_R {c : Int} (h : kd c = 17) : c = 5 := kd_one 5 17 (by decide +kernel) (by decide) h
theorem at_T {M : Mem} (h : Inv false M) : M 0 3 = 1 := un_T (Inv.r h kd_0 rfl 3 rfl rfl)
theorem at_R {M : Mem} (h : Inv false M) : M 0 4 = 5 := un_R (Inv.r h kd_0 rfl 4 rfl rfl)
theorem at_P {M : Mem} (h : Inv false M) : M 1 2 = 4 := un_P (Inv.r h kd_x1 rfl 2 rfl rfl)
theorem at_S {M : Mem} (h : Inv false M) : M 1 1 = 3 := un_S (Inv.r h kd_x1 rfl 1 rfl rfl)
theorem kd_x2 : kd 2 = 14 := by decide +kernel
theorem kd_y7 : kd 168 = 69 := by decide +kernel
theorem at_V {M : Mem} (h : Inv false M) : M 1 0 = 2 := kd_one 2 14 (by decide +kernel) (by decide) (Inv.r h kd_x1 rfl 0 rfl rfl)
def Tie (M N : Mem) : Prop := M 0 7 = N 163 50 ∧ M 5 1 = N 163 10 ∧ M 4 = N 167 ∧ M 3 = N 166 ∧ M 6 = N 169 ∧ M 5 2 = N 163 16 ∧ M 5 3 = N 163 17 ∧ FZ M ∧ zTS M N ∧ M 2 = N 168 ∧ zTQ M N ∧ zTW M N ∧ zTL M N
def tieC (L : List (Nat × Int)) : Bool := !(fin L 62 7) && !(fin L 17 1) && L.all (fun p => !(p.1 == 16)) && L.all (fun p => !(p.1 == 15)) && !(fin L 17 2) && !(fin L 17 3) && L.all (fun p => !(p.1 == 18)) && fzL L && tsC L && L.all (fun p => !(p.1 == 14)) && twC L && (tfL L && tcL L)
def tieM (L : List (Nat × Int)) : Bool := !(fin L 64 50) && !(fin L 64 10) && L.all (fun p => !(p.1 == 68)) && L.all (fun p => !(p.1 == 67)) && !(fin L 64 16) && !(fin L 64 17) && L.all (fun p => !(p.1 == 70)) && L.all (fun p => !(p.1 == 69))
theorem kd_x6 : kd 6 = 18 := by decide +kernel
theorem un_t5 {M : Mem} (h : Inv false M) : M 5 4 = 6 := un_t (Inv.r h kd_x5 rfl 4 rfl rfl)
theorem Tie.c {L : List (Nat × Int)} {M M' N : Mem} (h : Tie M N) (hI : Inv false M) (hF : Fr L M M') (hl : tieC L = true) : Tie M' N := by
  unfold tieC at hl
  simp only [Bool.and_eq_true, Bool.not_eq_true'] at hl
  obtain ⟨⟨⟨⟨⟨⟨⟨⟨⟨⟨⟨a, b⟩, c⟩, d⟩, e⟩, f⟩, g⟩, z⟩, y⟩, w⟩, w12⟩, w13⟩ := hl
  obtain ⟨h1, h2, h3, h4, h5, h6, h7, h8, h9, h10, h11, h12, h13⟩ := h
  exact ⟨(hF.e kd_0 7 a).trans h1, (hF.e kd_x5 1 b).trans h2, (hF.fn kd_x4 c).trans h3, (hF.fn kd_x3 d).trans h4, (hF.fn kd_x6 g).trans h5, (hF.e kd_x5 2 e).trans h6, (hF.e kd_x5 3 f).trans h7, FZ.fr h8 hF z, zTS.c h9 hI hF y, (hF.fn kd_x2 w).trans h10, h11.c (hF.e kd_0 7 a), h12.c hI h8 hF w12, h13.fr hI hF (by rw [Bool.and_eq_true]; exact w13) (fun _ _ _ => rfl)⟩
theorem Tie.m {L : List (Nat × Int)} {M N N' : Mem} (h : Tie M N) (hJ : Inv true N) (hF : Fr L N N') (hl : tieM L = true) (hI : Inv false M) (he : ∀ i, N' 164 i = N 164 i) : Tie M N' := by
  unfold tieM at hl
  simp only [Bool.and_eq_true, Bool.not_eq_true'] at hl
  obtain ⟨⟨⟨⟨⟨⟨⟨a, b⟩, c⟩, d⟩, e⟩, f⟩, g⟩, w⟩ := hl
  obtain ⟨h1, h2, h3, h4, h5, h6, h7, h8, h9, h10, h11, h12, h13⟩ := h
  exact ⟨h1.trans (hF.e kd_163 50 a).symm, h2.trans (hF.e kd_163 10 b).symm, h3.trans (hF.fn kd_y6 c).symm, h4.trans (hF.fn kd_y5 d).symm, h5.trans (hF.fn kd_169 g).symm, h6.trans (hF.e kd_163 16 e).symm, h7.trans (hF.e kd_163 17 f).symm, h8, zTS.m h9 (fun i a b c => he i), h10.trans (hF.fn kd_y7 w).symm, h11.m hJ (fun i a b c => he i), h12.m hI h8 (fun i _ => he i), h13.fr hI (Fr.rf [] M) rfl (fun i _ _ => he i)⟩
theorem fz_1 : ∀ n : Nat, n < 194 → kdl.getD n 0 = 1 → M0 n 6 = n + 1 ∧ M0 n 7 = n + 2 ∧ M0 n 8 = n + 3 ∧ M0 n 9 = n + 4 ∧ M0 n 10 = n + 5 ∧ M0 n 11 = n + 6 := by decide +kernel
theorem fz_2 : ∀ n : Nat, n < 194 → kdl.getD n 0 = 12 → M0 n 4 = n + 1 ∧ M0 n 5 = n + 8 ∧ M0 n 6 = n + 15 := by decide +kernel
theorem fz_3 : ∀ n : Nat, n < 194 → kdl.getD n 0 = 8 → M0 n 5 = n + 1 ∧ M0 n 6 = n + 2 ∧ M0 n 7 = n + 3 := by decide +kernel
theorem fz_k {c : Int} {k : Nat} (h : kd c = k) (hk : k ≠ 0) : 0 ≤ c ∧ c < 194 ∧ kdl.getD c.toNat 0 = k ∧ ((c.toNat : Nat) : Int) = c := by
  obtain ⟨h1, h2⟩ := kd_lt (c := c) (by rw [h]; exact hk)
  have e : kd c = kdl.getD c.toNat 0 := by unfold kd; rw [if_neg (by omega)]
  exact ⟨h1, h2, by rw [← e]; exact h, by omega⟩
theorem m0_fz : FZ M0 := by
  refine ⟨fun c h => ?_, fun c h => ?_, fun c h => ?_⟩
  · obtain ⟨a1, a2, a3, a4⟩ := fz_k h (by decide)
    have := fz_1 c.toNat (by omega) a3
    rw [a4] at this; exact this
  · obtain ⟨a1, a2, a3, a4⟩ := fz_k h (by decide)
    have := fz_2 c.toNat (by omega) a3
    rw [a4] at this; exact this
  · obtain ⟨a1, a2, a3, a4⟩ := fz_k h (by decide)
    have := fz_3 c.toNat (by omega) a3
    rw [a4] at this; exact this
theorem zRES.b {B : Int → Int} {fk fp r : Int} (h : zRES B fk fp r) : -1 ≤ r ∧ r ≤ 2 := by
  obtain ⟨q, t, ⟨k, j, a, b⟩, c⟩ := h
  have v := (zCH.v k a).2
  have v1 := v.1
  have v2 := v.2.1
  omega
theorem m0_ts : zTS M0 M0 := by
  refine ⟨⟨fun _ => 0, ⟨by decide, by decide, by decide, by decide, by decide, by decide⟩, ⟨rfl, rfl, rfl, rfl, by decide, by decide, by decide, by decide, by decide, by decide, by decide, by decide⟩, ⟨fun a => absurd a (by decide), fun a => absurd a (by decide)⟩, ⟨rfl, rfl, rfl, rfl, by decide, by decide, by decide, by decide, by decide, by decide, by decide, by decide⟩, ⟨fun a => absurd a (by decide), fun a => absurd a (by decide)⟩⟩, fun m m0 m1 _ => absurd m1 (by rw [show M0 0 7 = 0 from rfl]; omega), by decide +kernel, fun m h0 h2 => ?_, fun m n h0 h2 k0 k2 hn => ?_⟩
  · rcases (by omega : m = 0 ∨ m = 1 ∨ m = 2) with e | e | e <;> subst e <;> decide +kernel
  · rcases (by omega : m = 0 ∨ m = 1 ∨ m = 2) with e | e | e <;> rcases (by omega : n = 0 ∨ n = 1 ∨ n = 2) with e' | e' | e' <;> subst e e' <;> first | exact absurd rfl hn | decide +kernel
