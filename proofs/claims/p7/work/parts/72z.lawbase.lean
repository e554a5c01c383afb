/-! THE CLAIM OUT OF ONE WALK OF THE LAW'S BODY. Your part is whole_start (and what it stands on); all else here is the same for every law, but numbers. -/
def R_law : String := "NestedCheckerLaw"
def lw_P (b : Addr) (xs : List Int32) (args : Array Value) (s : State) : Prop := args = #[.ref b] ∧ s.IntsAt b xs ∧ xs.length ≤ 3072 ∧ (Jvm.Cond.and given_1 narrow_1).before args s = true
def lw_Q (_ : Array Value) (s : State) (o : Outcome) (t : State) : Prop := o = .returned (some (.int 1)) ∧ Framed s o t [] 600000 7302250
def lw_Z (below : List Frame) (a : Array Value) (s : State) : State → Prop := fun t => ∃ o, t.status = .running ∧ Ended t below o ∧ lw_Q a s o t
/-- the law's own end, with 1 on the stack, nothing written that was there before, its room as the claim has it -/
theorem lw_ret {p : Program} {l : Launch} {e : Env} {s : State} {m : MethodId} {below : List Frame} {meth : Method} {c : Code} {b : Nat} (hx : p.tables.exec = Jvm.exec) (hb : c.code = code) (hr : meth.sig.returnType = ret) (hlocks : meth.locks = false) {pc : Nat} {H : Heap} {ls : Array Slot} (hdg : decode code pc = .ok (.ireturn, 1)) : W p l e room_1 s m #[Value.ref b] below meth c H [] 600000 7302250 (lw_Z below #[Value.ref b] s) (F0 m pc ls [.int 1]) := by
  intro T hT X
  obtain ⟨fs, hret, hrun, hended, hW, hframe⟩ := X.leave (v := some (.int 1)) (hlocks := hlocks) (fun h => by rw [hr] at h; cases h)
  have hmeth' : T.vm.method? m = some meth := X.method'
  refine ⟨T.setFrames fs, ?_, .returned (some (.int 1)), hrun, hended, rfl, ⟨_, rfl⟩, hW, hframe⟩
  jvm_step X.here [X.here.top, hx, hb, hdg, hmeth', hr, ret, narrow_b1]
  (try refine ⟨rfl, ?_⟩); (try refine ⟨rfl, ?_⟩)
  first | (intro acts; rw [hret _ acts rfl rfl rfl]) | rw [hret _ _ rfl rfl rfl]
  exact Steps.refl _
/-- what holds at the law's entry: the machine, the code, the tables' words (any of lw_tbl by 'hts w (by decide +kernel)'), the script of L ints xs at the cell b, what the Statement gives of the start (any of its parts by flat_of_before) -/
def lw_At (p : Program) (s : State) (m : MethodId) (meth : Method) (c : Code) (b L : Nat) (xs : Nat → Int32) : Prop :=
  p.tables.exec = Jvm.exec ∧ c.code = code ∧ meth.sig.returnType = ret ∧ c.maxLocals = 4 ∧ s.vm.findClass R_law = some m.cls ∧ (∀ w ∈ lw_tbl, w.before #[Value.ref b] s = true) ∧ va_X b L xs s s.heap ∧ b < s.heap.size ∧ meth.locks = false ∧ (Jvm.Cond.and given_1 narrow_1).before #[Value.ref b] s = true

/-! the law: two worlds beside each other -/
def LW (G : KG) (X : KX) (ce sl : Nat) (ws : va_W) (pc : Nat) (lo : List (Option Value)) (st : List Value) : Prop :=
  JJ (xp X) (xl X) (xe X) (xR X) (xs X) (xm X) (xa X) (xb X) (xh X) (xc X) (xQ X) (xn X) G.2.2.1 vwCl (xA X) (va_S (xA X) (xs X).heap) ce sl ws pc (kl lo) st
abbrev LJ (G : KG) (X : KX) (ce sl : Nat) (M N : Mem) (pc : Nat) (lo : List (Option Value)) (st : List Value) : Prop := LW G X ce sl (wD false G M ++ wD true G N) pc lo st
def LSq (X : KX) (b L : Nat) (sq : Nat → Int32) : Prop := va_X b L sq (xs X) (xs X).heap ∧ b < (xs X).heap.size ∧ ¬ xA X b
def sv (sq : Nat → Int32) (z : Int) : Int := (sq z.toNat).toInt
section KWR
variable {B : Bool} {G : KG} {X : KX} {l : Launch} {cc : ByteArray} {own : String} {nL : Nat} {ret : Option FieldType} {R : Room} {ws : va_W} {ce sl : Nat} {pc : Nat} {lo : List (Option Value)} {st : List Value}
theorem kw_iconst (pc' : Nat) (F : kF B G X l cc own nL ret R) {z : Int} (hdg : decode cc pc = .ok (.iconst z, 1)) (hp : pc + 1 = pc') (k : LW G X ce sl ws pc' lo (vI z :: st)) : LW G X ce sl ws pc lo st := jy_iconst F.1 hdg rfl hp k
theorem kw_bipush (pc' : Nat) (F : kF B G X l cc own nL ret R) {z : Int} (hdg : decode cc pc = .ok (.bipush z, 2)) (hv : (Int8.ofInt z).toInt32 = Int32.ofInt z) (hp : pc + 2 = pc') (k : LW G X ce sl ws pc' lo (vI z :: st)) : LW G X ce sl ws pc lo st := jy_bipush F.1 hdg hv hp k
theorem kw_iload_n (pc' : Nat) (F : kF B G X l cc own nL ret R) (i : Nat) {q : Fin 4} {x : Int} (hdg : decode cc pc = .ok (.iload_n q, 1)) (hi : (q : Nat) = i) (hq : lo[i]? = some (some (vI x))) (hp : pc + 1 = pc') (k : LW G X ce sl ws pc' lo (vI x :: st)) : LW G X ce sl ws pc lo st := by subst hp; exact fun H locs ls hP hD hZ hl => lv_iload_n F.1.1.1 F.1.1.2.1 hdg hi (kl_at hl hq) (k H locs ls hP hD hZ hl)
theorem kw_aload_n (pc' : Nat) (F : kF B G X l cc own nL ret R) (i : Nat) {q : Fin 4} {x : Nat} (hdg : decode cc pc = .ok (.aload_n q, 1)) (hi : (q : Nat) = i) (hq : lo[i]? = some (some (.ref x))) (hp : pc + 1 = pc') (k : LW G X ce sl ws pc' lo (.ref x :: st)) : LW G X ce sl ws pc lo st := by subst hp; exact fun H locs ls hP hD hZ hl => lv_aload_n F.1.1.1 F.1.1.2.1 hdg hi (kl_at hl hq) (k H locs ls hP hD hZ hl)
theorem kw_istore_n (pc' : Nat) (F : kF B G X l cc own nL ret R) (i : Nat) {q : Fin 4} {x : Int} {lo' : List (Option Value)} (hdg : decode cc pc = .ok (.istore_n q, 1)) (hi : (q : Nat) = i) (hn : i < nL) (hpr : kprev lo i = true) (hlo : (lo.set i (some (vI x))) = lo') (hp : pc + 1 = pc') (k : LW G X ce sl ws pc' lo' st) : LW G X ce sl ws pc lo (vI x :: st) := by subst hp; subst hlo; exact fun H locs ls hP hD hZ hl => lv_istore_n F.1.1.1 F.1.1.2.1 hdg hi hl (by rw [F.2.2.2.2.2.2.1]; exact hn) rfl (fun ls' hl' => k H locs ls' hP hD hZ (lv_mono hl' (kl_sto1 hpr)))
theorem kw_iinc (pc' : Nat) (F : kF B G X l cc own nL ret R) (i : Nat) {d x v : Int} {lo' : List (Option Value)} (hdg : decode cc pc = .ok (.iinc i d, 3)) (hq : lo[i]? = some (some (vI x))) (hv : x + d = v) (hn : i < nL) (hpr : kprev lo i = true) (hlo : (lo.set i (some (vI v))) = lo') (hp : pc + 3 = pc') (k : LW G X ce sl ws pc' lo' st) : LW G X ce sl ws pc lo st := by subst hp; subst hlo; subst hv; obtain ⟨q, hq'⟩ := List.mem_iff_getElem?.mp (kl_mem.mpr hq); exact fun H locs ls hP hD hZ hl => lv_iinc F.1.1.1 F.1.1.2.1 hdg hl hq' (z_add x d) (by rw [F.2.2.2.2.2.2.1]; exact hn) rfl (fun ls' hl' => k H locs ls' hP hD hZ (lv_mono hl' (kl_sto1 hpr)))
theorem kw_isub (pc' : Nat) (F : kF B G X l cc own nL ret R) {x y v : Int} (hdg : decode cc pc = .ok (.isub, 1)) (hv : x - y = v) (hp : pc + 1 = pc') (k : LW G X ce sl ws pc' lo (vI v :: st)) : LW G X ce sl ws pc lo (vI y :: vI x :: st) := by subst hv; exact jy_isub F.1 hdg (z_sub x y) hp k
theorem kw_iand (pc' : Nat) (F : kF B G X l cc own nL ret R) {x y v : Int} (hdg : decode cc pc = .ok (.iand, 1)) (hv : zand x y = v) (hp : pc + 1 = pc') (k : LW G X ce sl ws pc' lo (vI v :: st)) : LW G X ce sl ws pc lo (vI y :: vI x :: st) := by subst hv; exact jy_iand F.1 hdg ((z_ofto _).symm) hp k
theorem kw_icmp_gt (pc' : Nat) (F : kF B G X l cc own nL ret R) (tgt : Nat) {x y : Int} {off : Int} (hdg : decode cc pc = .ok (.if_icmp .gt off, 3)) (ht : (pc : Int) + off = (tgt : Int)) (hp : pc + 3 = pc') (hx : -2147483648 ≤ x ∧ x ≤ 2147483647) (hy : -2147483648 ≤ y ∧ y ≤ 2147483647) (kt : y < x → LW G X ce sl ws tgt lo st) (kf : x ≤ y → LW G X ce sl ws pc' lo st) : LW G X ce sl ws pc lo (vI y :: vI x :: st) := jy_icmp_gt F.1 hdg ht hp (fun h => kt ((z_lt hy hx).mp h)) (fun h => kf (Int.not_lt.mp (fun e => h ((z_lt hy hx).mpr e))))
theorem kw_goto (tgt : Nat) (F : kF B G X l cc own nL ret R) {off : Int} (hdg : decode cc pc = .ok (.goto off, 3)) (ht : (pc : Int) + off = (tgt : Int)) (k : LW G X ce sl ws tgt lo st) : LW G X ce sl ws pc lo st := jy_goto F.1 hdg ht k
theorem kw_tableIn (tgt : Nat) (F : kF B G X l cc own nL ret R) {dflt l0 hi : Int} {offs : Array Int} {len : Nat} {x off : Int} (hx : -2147483648 ≤ x ∧ x ≤ 2147483647) (hdg : decode cc pc = .ok (.tableswitch dflt l0 hi offs, len)) (h1 : l0 ≤ x ∧ x ≤ hi) (ho : offs[(x - l0).toNat]? = some off) (ht : (pc : Int) + off = (tgt : Int)) (k : LW G X ce sl ws tgt lo st) : LW G X ce sl ws pc lo (vI x :: st) := jy_tableIn F.1 hdg (by rw [z_to hx]; omega) (by rw [z_to hx]; omega) (by rw [z_to hx]; exact ho) ht k
theorem kw_tableOut (tgt : Nat) (F : kF B G X l cc own nL ret R) {dflt l0 hi : Int} {offs : Array Int} {len : Nat} {x : Int} (hx : -2147483648 ≤ x ∧ x ≤ 2147483647) (hdg : decode cc pc = .ok (.tableswitch dflt l0 hi offs, len)) (h1 : x < l0 ∨ hi < x) (ht : (pc : Int) + dflt = (tgt : Int)) (k : LW G X ce sl ws tgt lo st) : LW G X ce sl ws pc lo (vI x :: st) := jy_tableOut F.1 hdg (by rw [z_to hx]; exact h1) ht k
theorem kw_sld (pc' : Nat) (F : kF B G X l cc own nL ret R) {b L : Nat} {sq : Nat → Int32} {z : Int} (S : LSq X b L sq) (hL : L ≤ 3072) (hz : 0 ≤ z ∧ z < L) (hdg : decode cc pc = .ok (.iaload, 1)) (hp : pc + 1 = pc') (k : LW G X ce sl ws pc' lo (vI (sv sq z) :: st)) : LW G X ce sl ws pc lo (vI z :: .ref b :: st) := by
  subst hp
  exact fun H locs ls hP hD hZ hl => va_sld F.1.1.1 F.1.1.2.1 S.1 S.2.1 S.2.2 hZ (z_in hz.1 hz.2 (by omega)) hdg (by rw [z_nat ⟨hz.1, by omega⟩, ← z_ofto (sq z.toNat)]; exact k H locs ls hP hD hZ hl)
theorem kw_slen (pc' : Nat) (F : kF B G X l cc own nL ret R) {b L : Nat} {sq : Nat → Int32} (S : LSq X b L sq) (hdg : decode cc pc = .ok (.arraylength, 1)) (hp : pc + 1 = pc') (k : LW G X ce sl ws pc' lo (vI L :: st)) : LW G X ce sl ws pc lo (.ref b :: st) := by
  subst hp
  exact fun H locs ls hP hD hZ hl => va_slen F.1.1.1 F.1.1.2.1 S.1 S.2.1 S.2.2 hZ hdg (by have q := k H locs ls hP hD hZ hl; rw [show vI (L : Int) = Value.int (Int32.ofNat L) from rfl] at q; exact q)
end KWR
theorem kd_0 : kd 0 = 62 := by decide +kernel
theorem kd_x3 : kd 3 = 15 := by decide +kernel
theorem kd_x4 : kd 4 = 16 := by decide +kernel
theorem kd_x5 : kd 5 = 17 := by decide +kernel
theorem kd_x2 : kd 2 = 14 := by decide +kernel
def Tie (M N : Mem) : Prop := M 0 7 = N 163 50 ∧ M 5 1 = N 163 10 ∧ M 4 = N 167 ∧ M 3 = N 166 ∧ M 6 = N 169 ∧ M 5 2 = N 163 16 ∧ M 5 3 = N 163 17 ∧ FZ M ∧ zTS M N ∧ M 2 = N 168 ∧ zTQ M N
def tieC (L : List (Nat × Int)) : Bool := !(fin L 62 7) && !(fin L 17 1) && L.all (fun p => !(p.1 == 16)) && L.all (fun p => !(p.1 == 15)) && !(fin L 17 2) && !(fin L 17 3) && L.all (fun p => !(p.1 == 18)) && fzL L && tsC L && L.all (fun p => !(p.1 == 14))
theorem kd_x6 : kd 6 = 18 := by decide +kernel
theorem Tie.c {L : List (Nat × Int)} {M M' N : Mem} (h : Tie M N) (hI : Inv false M) (hF : Fr L M M') (hl : tieC L = true) : Tie M' N := by
  unfold tieC at hl
  simp only [Bool.and_eq_true, Bool.not_eq_true'] at hl
  obtain ⟨⟨⟨⟨⟨⟨⟨⟨⟨a, b⟩, c⟩, d⟩, e⟩, f⟩, g⟩, z⟩, y⟩, w⟩ := hl
  obtain ⟨h1, h2, h3, h4, h5, h6, h7, h8, h9, h10, h11⟩ := h
  exact ⟨(hF.e kd_0 7 a).trans h1, (hF.e kd_x5 1 b).trans h2, (hF.fn kd_x4 c).trans h3, (hF.fn kd_x3 d).trans h4, (hF.fn kd_x6 g).trans h5, (hF.e kd_x5 2 e).trans h6, (hF.e kd_x5 3 f).trans h7, FZ.fr h8 hF z, zTS.c h9 hI hF y, (hF.fn kd_x2 w).trans h10, h11.c (hF.e kd_0 7 a)⟩
theorem fz_1 : ∀ n : Nat, n < 194 → kdl.getD n 0 = 1 → M0 n 6 = n + 1 ∧ M0 n 7 = n + 2 ∧ M0 n 8 = n + 3 ∧ M0 n 9 = n + 4 ∧ M0 n 10 = n + 5 ∧ M0 n 11 = n + 6 := by decide +kernel
theorem fz_2 : ∀ n : Nat, n < 194 → kdl.getD n 0 = 12 → M0 n 4 = n + 1 ∧ M0 n 5 = n + 8 ∧ M0 n 6 = n + 15 := by decide +kernel
theorem fz_3 : ∀ n : Nat, n < 194 → kdl.getD n 0 = 8 → M0 n 5 = n + 1 ∧ M0 n 6 = n + 2 ∧ M0 n 7 = n + 3 := by decide +kernel
theorem fz_k {c : Int} {k : Nat} (h : kd c = k) (hk : k ≠ 0) : 0 ≤ c ∧ c < 194 ∧ kdl.getD c.toNat 0 = k ∧ ((c.toNat : Nat) : Int) = c := by
  obtain ⟨h1, h2⟩ := kd_lt (c := c) (by rw [h]; exact hk)
  have e : kd c = kdl.getD c.toNat 0 := by unfold kd; rw [if_neg (by omega)]
  exact ⟨h1, h2, by rw [← e]; exact h, by omega⟩
theorem m0_fz : FZ M0 := by
  refine ⟨fun c h => ?_, fun c h => ?_, fun c h => ?_⟩
  · obtain ⟨a1, a2, a3, a4⟩ := fz_k h (by decide)
    have := fz_1 c.toNat (by omega) a3
    rw [a4] at this; exact this
  · obtain ⟨a1, a2, a3, a4⟩ := fz_k h (by decide)
    have := fz_2 c.toNat (by omega) a3
    rw [a4] at this; exact this
  · obtain ⟨a1, a2, a3, a4⟩ := fz_k h (by decide)
    have := fz_3 c.toNat (by omega) a3
    rw [a4] at this; exact this
theorem zRES.b {B : Int → Int} {fk fp r : Int} (h : zRES B fk fp r) : -1 ≤ r ∧ r ≤ 2 := by
  obtain ⟨q, t, ⟨k, j, a, b⟩, c⟩ := h
  have v := (zCH.v k a).2
  have v1 := v.1
  have v2 := v.2.1
  omega
theorem m0_ts : zTS M0 M0 := by
  refine ⟨⟨fun _ => 0, ⟨by decide, by decide, by decide, by decide, by decide, by decide⟩, ⟨rfl, rfl, rfl, rfl, by decide, by decide, by decide, by decide, by decide, by decide, by decide, by decide⟩, ⟨fun a => absurd a (by decide), fun a => absurd a (by decide)⟩, ⟨rfl, rfl, rfl, rfl, by decide, by decide, by decide, by decide, by decide, by decide, by decide, by decide⟩, ⟨fun a => absurd a (by decide), fun a => absurd a (by decide)⟩⟩, fun m m0 m1 _ => absurd m1 (by rw [show M0 0 7 = 0 from rfl]; omega), by decide +kernel, fun m h0 h2 => ?_, fun m n h0 h2 k0 k2 hn => ?_⟩
  · rcases (by omega : m = 0 ∨ m = 1 ∨ m = 2) with e | e | e <;> subst e <;> decide +kernel
  · rcases (by omega : m = 0 ∨ m = 1 ∨ m = 2) with e | e | e <;> rcases (by omega : n = 0 ∨ n = 1 ∨ n = 2) with e' | e' | e' <;> subst e e' <;> first | exact absurd rfl hn | decide +kernel
