section
/-! JJ: the walk of a body over a world of cells; Z: how the heap stands to the one at the entry -/
/-- the words on nest mates -/
def jy_nest (w : Cond) : Prop := (∃ a i b n d h, w = .fieldLinkNest a i b n d h) ∨ (∃ a i x h, w = .methodLinkNest a i x h) ∨ ∃ C, w = .arrayOver (.object C)
def jy_N (nw : List Cond) (U : State) : Prop := ∀ w ∈ nw, jy_nest w ∧ va_Nw w U
theorem jy_N.same {nw : List Cond} {u U : State} (hvm : u.vm = U.vm) (hN : jy_N nw u) : jy_N nw U := fun w hw => ⟨(hN w hw).1, by
  obtain ⟨h1, h2⟩ := hN w hw
  rcases h1 with ⟨a, i, b, n, d, h, rfl⟩ | ⟨a, i, x, h, rfl⟩ | ⟨C, rfl⟩
  · exact va_Nw.same rfl hvm h2
  · exact va_Nw.same rfl hvm h2
  · exact va_AO.moved (C := C) (u := u) (by rw [hvm]; exact Vm.Alike.refl _) h2⟩
theorem jy_N.warm {nw : List Cond} {s U : State} (hW : s.WarmedH U.vm) (hN : jy_N nw s) : jy_N nw U := fun w hw => ⟨(hN w hw).1, by
  obtain ⟨h1, h2⟩ := hN w hw
  rcases h1 with ⟨a, i, b, n, d, h, rfl⟩ | ⟨a, i, x, h, rfl⟩ | ⟨C, rfl⟩
  · exact h2.warmF hW
  · exact h2.warmM hW
  · exact va_AO.moved hW.alike h2⟩
def jy_F (p : Program) (m : MethodId) (c : Code) (cc : ByteArray) (nL : Nat) (s : State) (args : Array Value) (Ts : List Cond) (own : String) (D : va_G) (cl : List vw_C) (tys : List (ClassId × FieldType)) : Prop :=
  CallFix p m c cc nL s args Ts own ∧ va_K D cl tys s
def JJ (p : Program) (l : Launch) (e : Env) (R : Room) (s : State) (m : MethodId) (args : Array Value) (below : List Frame) (meth : Method) (c : Code) (Q : State → Prop) (nL : Nat) (D : va_G) (cl : List vw_C) (A : Nat → Prop) (Z : Heap → List Loc → Prop) (cells slots : Nat) (ws : va_W) (pc : Nat) (lv : List (Nat × Value)) (st : List Value) : Prop :=
  ∀ (H : Heap) (locs : List Loc) (ls : Array Slot), va_P D cl ws H → va_D A ws → Z H locs → lv_has ls nL lv → W p l e R s m args below meth c H locs cells slots Q (F0 m pc ls st)
theorem jy_fm {α : Type} {f : Nat → Option α} : ∀ {is : List Nat} {w : List α}, is.map f = w.map some → is.filterMap f = w
  | [], [], _ => rfl
  | [], _ :: _, h => by simp at h
  | _ :: _, [], h => by simp at h
  | i :: is, x :: w, h => by
    simp only [List.map_cons, List.cons.injEq] at h
    simp only [List.filterMap_cons, h.1]
    exact congrArg (x :: ·) (jy_fm h.2)
section JY
variable {p : Program} {l : Launch} {e : Env} {R : Room} {s : State} {m : MethodId} {args : Array Value} {below : List Frame} {meth : Method} {c : Code} {Q : State → Prop} {cc : ByteArray} {nL : Nat} {Ts : List Cond} {own : String} {D : va_G} {cl : List vw_C} {tys : List (ClassId × FieldType)} {A : Nat → Prop} {H0 : Heap} {Z : Heap → List Loc → Prop} {ws : va_W} {cells slots pc pc' : Nat} {lv : List (Nat × Value)} {st : List Value}
theorem jy_iconst (F : jy_F p m c cc nL s args Ts own D cl tys) {n : Int} {v : Int32} (hdg : decode cc pc = .ok (.iconst n, 1)) (hv : Int32.ofInt n = v) (hp : pc + 1 = pc') (k : JJ p l e R s m args below meth c Q nL D cl A Z cells slots ws pc' lv (.int v :: st)) : JJ p l e R s m args below meth c Q nL D cl A Z cells slots ws pc lv st := by
  subst hp; exact fun H locs ls hP hD hZ hl => lv_iconst F.1.1 F.1.2.1 hdg hv (k H locs ls hP hD hZ hl)
theorem jy_bipush (F : jy_F p m c cc nL s args Ts own D cl tys) {n : Int} {v : Int32} (hdg : decode cc pc = .ok (.bipush n, 2)) (hv : (Int8.ofInt n).toInt32 = v) (hp : pc + 2 = pc') (k : JJ p l e R s m args below meth c Q nL D cl A Z cells slots ws pc' lv (.int v :: st)) : JJ p l e R s m args below meth c Q nL D cl A Z cells slots ws pc lv st := by
  subst hp; exact fun H locs ls hP hD hZ hl => lv_bipush F.1.1 F.1.2.1 hdg hv (k H locs ls hP hD hZ hl)
theorem jy_sipush (F : jy_F p m c cc nL s args Ts own D cl tys) {n : Int} {v : Int32} (hdg : decode cc pc = .ok (.sipush n, 3)) (hv : (Int16.ofInt n).toInt32 = v) (hp : pc + 3 = pc') (k : JJ p l e R s m args below meth c Q nL D cl A Z cells slots ws pc' lv (.int v :: st)) : JJ p l e R s m args below meth c Q nL D cl A Z cells slots ws pc lv st := by
  subst hp; exact fun H locs ls hP hD hZ hl => lv_sipush F.1.1 F.1.2.1 hdg hv (k H locs ls hP hD hZ hl)
theorem jy_lconst (F : jy_F p m c cc nL s args Ts own D cl tys) {n : Fin 2} {v : Int64} (hdg : decode cc pc = .ok (.lconst n, 1)) (hv : Int64.ofNat (n : Nat) = v) (hp : pc + 1 = pc') (k : JJ p l e R s m args below meth c Q nL D cl A Z cells slots ws pc' lv (.long v :: st)) : JJ p l e R s m args below meth c Q nL D cl A Z cells slots ws pc lv st := by
  subst hp; exact fun H locs ls hP hD hZ hl => lv_lconst F.1.1 F.1.2.1 hdg hv (k H locs ls hP hD hZ hl)
theorem jy_iload_n (F : jy_F p m c cc nL s args Ts own D cl tys) (q : Nat) {k0 : Fin 4} {i : Nat} {x : Int32} (hdg : decode cc pc = .ok (.iload_n k0, 1)) (hi : (k0 : Nat) = i) (hq : lv[q]? = some (i, .int x)) (hp : pc + 1 = pc') (k : JJ p l e R s m args below meth c Q nL D cl A Z cells slots ws pc' lv (.int x :: st)) : JJ p l e R s m args below meth c Q nL D cl A Z cells slots ws pc lv st := by
  subst hp; exact fun H locs ls hP hD hZ hl => lv_iload_n F.1.1 F.1.2.1 hdg hi (lv_at hl q hq) (k H locs ls hP hD hZ hl)
theorem jy_iload (F : jy_F p m c cc nL s args Ts own D cl tys) (q : Nat) {i : Nat} {x : Int32} (hdg : decode cc pc = .ok (.iload i, 2)) (hq : lv[q]? = some (i, .int x)) (hp : pc + 2 = pc') (k : JJ p l e R s m args below meth c Q nL D cl A Z cells slots ws pc' lv (.int x :: st)) : JJ p l e R s m args below meth c Q nL D cl A Z cells slots ws pc lv st := by
  subst hp; exact fun H locs ls hP hD hZ hl => lv_iload F.1.1 F.1.2.1 hdg (lv_at hl q hq) (k H locs ls hP hD hZ hl)
theorem jy_istore_n (F : jy_F p m c cc nL s args Ts own D cl tys) {k0 : Fin 4} {i : Nat} {x : Int32} {lv' : List (Nat × Value)} (hdg : decode cc pc = .ok (.istore_n k0, 1)) (hi : (k0 : Nat) = i) (hn : i < nL) (hl2 : (i, Value.int x) :: lv.filter (fun q => !(q.1 == i) && !(q.1 + 1 == i && q.2.category == 2)) = lv') (hp : pc + 1 = pc') (k : JJ p l e R s m args below meth c Q nL D cl A Z cells slots ws pc' lv' st) : JJ p l e R s m args below meth c Q nL D cl A Z cells slots ws pc lv (.int x :: st) := by
  subst hp; exact fun H locs ls hP hD hZ hl => lv_istore_n F.1.1 F.1.2.1 hdg hi hl hn hl2 (fun ls' hl' => k H locs ls' hP hD hZ hl')
theorem jy_istore (F : jy_F p m c cc nL s args Ts own D cl tys) {i : Nat} {x : Int32} {lv' : List (Nat × Value)} (hdg : decode cc pc = .ok (.istore i, 2)) (hn : i < nL) (hl2 : (i, Value.int x) :: lv.filter (fun q => !(q.1 == i) && !(q.1 + 1 == i && q.2.category == 2)) = lv') (hp : pc + 2 = pc') (k : JJ p l e R s m args below meth c Q nL D cl A Z cells slots ws pc' lv' st) : JJ p l e R s m args below meth c Q nL D cl A Z cells slots ws pc lv (.int x :: st) := by
  subst hp; exact fun H locs ls hP hD hZ hl => lv_istore F.1.1 F.1.2.1 hdg hl hn hl2 (fun ls' hl' => k H locs ls' hP hD hZ hl')
theorem jy_lload_n (F : jy_F p m c cc nL s args Ts own D cl tys) (q : Nat) {k0 : Fin 4} {i : Nat} {x : Int64} (hdg : decode cc pc = .ok (.lload_n k0, 1)) (hi : (k0 : Nat) = i) (hq : lv[q]? = some (i, .long x)) (hp : pc + 1 = pc') (k : JJ p l e R s m args below meth c Q nL D cl A Z cells slots ws pc' lv (.long x :: st)) : JJ p l e R s m args below meth c Q nL D cl A Z cells slots ws pc lv st := by
  subst hp; exact fun H locs ls hP hD hZ hl => lv_lload_n F.1.1 F.1.2.1 hdg hi (lv_at hl q hq) (k H locs ls hP hD hZ hl)
theorem jy_lload (F : jy_F p m c cc nL s args Ts own D cl tys) (q : Nat) {i : Nat} {x : Int64} (hdg : decode cc pc = .ok (.lload i, 2)) (hq : lv[q]? = some (i, .long x)) (hp : pc + 2 = pc') (k : JJ p l e R s m args below meth c Q nL D cl A Z cells slots ws pc' lv (.long x :: st)) : JJ p l e R s m args below meth c Q nL D cl A Z cells slots ws pc lv st := by
  subst hp; exact fun H locs ls hP hD hZ hl => lv_lload F.1.1 F.1.2.1 hdg (lv_at hl q hq) (k H locs ls hP hD hZ hl)
theorem jy_lstore_n (F : jy_F p m c cc nL s args Ts own D cl tys) {k0 : Fin 4} {i : Nat} {x : Int64} {lv' : List (Nat × Value)} (hdg : decode cc pc = .ok (.lstore_n k0, 1)) (hi : (k0 : Nat) = i) (hn : i + 1 < nL) (hl2 : (i, Value.long x) :: lv.filter (fun q => !(q.1 == i) && (!(q.1 == i + 1) && !(q.1 + 1 == i && q.2.category == 2))) = lv') (hp : pc + 1 = pc') (k : JJ p l e R s m args below meth c Q nL D cl A Z cells slots ws pc' lv' st) : JJ p l e R s m args below meth c Q nL D cl A Z cells slots ws pc lv (.long x :: st) := by
  subst hp; exact fun H locs ls hP hD hZ hl => lv_lstore_n F.1.1 F.1.2.1 hdg hi hl hn hl2 (fun ls' hl' => k H locs ls' hP hD hZ hl')
theorem jy_lstore (F : jy_F p m c cc nL s args Ts own D cl tys) {i : Nat} {x : Int64} {lv' : List (Nat × Value)} (hdg : decode cc pc = .ok (.lstore i, 2)) (hn : i + 1 < nL) (hl2 : (i, Value.long x) :: lv.filter (fun q => !(q.1 == i) && (!(q.1 == i + 1) && !(q.1 + 1 == i && q.2.category == 2))) = lv') (hp : pc + 2 = pc') (k : JJ p l e R s m args below meth c Q nL D cl A Z cells slots ws pc' lv' st) : JJ p l e R s m args below meth c Q nL D cl A Z cells slots ws pc lv (.long x :: st) := by
  subst hp; exact fun H locs ls hP hD hZ hl => lv_lstore F.1.1 F.1.2.1 hdg hl hn hl2 (fun ls' hl' => k H locs ls' hP hD hZ hl')
theorem jy_aload_n (F : jy_F p m c cc nL s args Ts own D cl tys) (q : Nat) {k0 : Fin 4} {i : Nat} {x : Nat} (hdg : decode cc pc = .ok (.aload_n k0, 1)) (hi : (k0 : Nat) = i) (hq : lv[q]? = some (i, .ref x)) (hp : pc + 1 = pc') (k : JJ p l e R s m args below meth c Q nL D cl A Z cells slots ws pc' lv (.ref x :: st)) : JJ p l e R s m args below meth c Q nL D cl A Z cells slots ws pc lv st := by
  subst hp; exact fun H locs ls hP hD hZ hl => lv_aload_n F.1.1 F.1.2.1 hdg hi (lv_at hl q hq) (k H locs ls hP hD hZ hl)
theorem jy_aload (F : jy_F p m c cc nL s args Ts own D cl tys) (q : Nat) {i : Nat} {x : Nat} (hdg : decode cc pc = .ok (.aload i, 2)) (hq : lv[q]? = some (i, .ref x)) (hp : pc + 2 = pc') (k : JJ p l e R s m args below meth c Q nL D cl A Z cells slots ws pc' lv (.ref x :: st)) : JJ p l e R s m args below meth c Q nL D cl A Z cells slots ws pc lv st := by
  subst hp; exact fun H locs ls hP hD hZ hl => lv_aload F.1.1 F.1.2.1 hdg (lv_at hl q hq) (k H locs ls hP hD hZ hl)
theorem jy_astore_n (F : jy_F p m c cc nL s args Ts own D cl tys) {k0 : Fin 4} {i : Nat} {x : Nat} {lv' : List (Nat × Value)} (hdg : decode cc pc = .ok (.astore_n k0, 1)) (hi : (k0 : Nat) = i) (hn : i < nL) (hl2 : (i, Value.ref x) :: lv.filter (fun q => !(q.1 == i) && !(q.1 + 1 == i && q.2.category == 2)) = lv') (hp : pc + 1 = pc') (k : JJ p l e R s m args below meth c Q nL D cl A Z cells slots ws pc' lv' st) : JJ p l e R s m args below meth c Q nL D cl A Z cells slots ws pc lv (.ref x :: st) := by
  subst hp; exact fun H locs ls hP hD hZ hl => lv_astore_n F.1.1 F.1.2.1 hdg hi hl hn hl2 (fun ls' hl' => k H locs ls' hP hD hZ hl')
theorem jy_astore (F : jy_F p m c cc nL s args Ts own D cl tys) {i : Nat} {x : Nat} {lv' : List (Nat × Value)} (hdg : decode cc pc = .ok (.astore i, 2)) (hn : i < nL) (hl2 : (i, Value.ref x) :: lv.filter (fun q => !(q.1 == i) && !(q.1 + 1 == i && q.2.category == 2)) = lv') (hp : pc + 2 = pc') (k : JJ p l e R s m args below meth c Q nL D cl A Z cells slots ws pc' lv' st) : JJ p l e R s m args below meth c Q nL D cl A Z cells slots ws pc lv (.ref x :: st) := by
  subst hp; exact fun H locs ls hP hD hZ hl => lv_astore F.1.1 F.1.2.1 hdg hl hn hl2 (fun ls' hl' => k H locs ls' hP hD hZ hl')
theorem jy_iinc (F : jy_F p m c cc nL s args Ts own D cl tys) (q : Nat) {i : Nat} {n : Int} {x v : Int32} {lv' : List (Nat × Value)} (hdg : decode cc pc = .ok (.iinc i n, 3)) (hq : lv[q]? = some (i, .int x)) (hv : x + Int32.ofInt n = v) (hn : i < nL) (hl2 : (i, Value.int v) :: lv.filter (fun q => !(q.1 == i) && !(q.1 + 1 == i && q.2.category == 2)) = lv') (hp : pc + 3 = pc') (k : JJ p l e R s m args below meth c Q nL D cl A Z cells slots ws pc' lv' st) : JJ p l e R s m args below meth c Q nL D cl A Z cells slots ws pc lv st := by
  subst hp; exact fun H locs ls hP hD hZ hl => lv_iinc F.1.1 F.1.2.1 hdg hl hq hv hn hl2 (fun ls' hl' => k H locs ls' hP hD hZ hl')
theorem jy_iadd (F : jy_F p m c cc nL s args Ts own D cl tys) {x y v : Int32} (hdg : decode cc pc = .ok (.iadd, 1)) (hv : x + y = v) (hp : pc + 1 = pc') (k : JJ p l e R s m args below meth c Q nL D cl A Z cells slots ws pc' lv (.int v :: st)) : JJ p l e R s m args below meth c Q nL D cl A Z cells slots ws pc lv (.int y :: .int x :: st) := by
  subst hp; subst hv; exact fun H locs ls hP hD hZ hl => lv_iadd F.1.1 F.1.2.1 hdg  (k H locs ls hP hD hZ hl)
theorem jy_isub (F : jy_F p m c cc nL s args Ts own D cl tys) {x y v : Int32} (hdg : decode cc pc = .ok (.isub, 1)) (hv : x - y = v) (hp : pc + 1 = pc') (k : JJ p l e R s m args below meth c Q nL D cl A Z cells slots ws pc' lv (.int v :: st)) : JJ p l e R s m args below meth c Q nL D cl A Z cells slots ws pc lv (.int y :: .int x :: st) := by
  subst hp; subst hv; exact fun H locs ls hP hD hZ hl => lv_isub F.1.1 F.1.2.1 hdg  (k H locs ls hP hD hZ hl)
theorem jy_imul (F : jy_F p m c cc nL s args Ts own D cl tys) {x y v : Int32} (hdg : decode cc pc = .ok (.imul, 1)) (hv : x * y = v) (hp : pc + 1 = pc') (k : JJ p l e R s m args below meth c Q nL D cl A Z cells slots ws pc' lv (.int v :: st)) : JJ p l e R s m args below meth c Q nL D cl A Z cells slots ws pc lv (.int y :: .int x :: st) := by
  subst hp; subst hv; exact fun H locs ls hP hD hZ hl => lv_imul F.1.1 F.1.2.1 hdg  (k H locs ls hP hD hZ hl)
theorem jy_iand (F : jy_F p m c cc nL s args Ts own D cl tys) {x y v : Int32} (hdg : decode cc pc = .ok (.iand, 1)) (hv : x &&& y = v) (hp : pc + 1 = pc') (k : JJ p l e R s m args below meth c Q nL D cl A Z cells slots ws pc' lv (.int v :: st)) : JJ p l e R s m args below meth c Q nL D cl A Z cells slots ws pc lv (.int y :: .int x :: st) := by
  subst hp; subst hv; exact fun H locs ls hP hD hZ hl => lv_iand F.1.1 F.1.2.1 hdg  (k H locs ls hP hD hZ hl)
theorem jy_ior (F : jy_F p m c cc nL s args Ts own D cl tys) {x y v : Int32} (hdg : decode cc pc = .ok (.ior, 1)) (hv : x ||| y = v) (hp : pc + 1 = pc') (k : JJ p l e R s m args below meth c Q nL D cl A Z cells slots ws pc' lv (.int v :: st)) : JJ p l e R s m args below meth c Q nL D cl A Z cells slots ws pc lv (.int y :: .int x :: st) := by
  subst hp; subst hv; exact fun H locs ls hP hD hZ hl => lv_ior F.1.1 F.1.2.1 hdg  (k H locs ls hP hD hZ hl)
theorem jy_ixor (F : jy_F p m c cc nL s args Ts own D cl tys) {x y v : Int32} (hdg : decode cc pc = .ok (.ixor, 1)) (hv : x ^^^ y = v) (hp : pc + 1 = pc') (k : JJ p l e R s m args below meth c Q nL D cl A Z cells slots ws pc' lv (.int v :: st)) : JJ p l e R s m args below meth c Q nL D cl A Z cells slots ws pc lv (.int y :: .int x :: st) := by
  subst hp; subst hv; exact fun H locs ls hP hD hZ hl => lv_ixor F.1.1 F.1.2.1 hdg  (k H locs ls hP hD hZ hl)
theorem jy_ishl (F : jy_F p m c cc nL s args Ts own D cl tys) {x y v : Int32} (hdg : decode cc pc = .ok (.ishl, 1)) (hv : x <<< (y &&& 31) = v) (hp : pc + 1 = pc') (k : JJ p l e R s m args below meth c Q nL D cl A Z cells slots ws pc' lv (.int v :: st)) : JJ p l e R s m args below meth c Q nL D cl A Z cells slots ws pc lv (.int y :: .int x :: st) := by
  subst hp; subst hv; exact fun H locs ls hP hD hZ hl => lv_ishl F.1.1 F.1.2.1 hdg  (k H locs ls hP hD hZ hl)
theorem jy_ishr (F : jy_F p m c cc nL s args Ts own D cl tys) {x y v : Int32} (hdg : decode cc pc = .ok (.ishr, 1)) (hv : x >>> (y &&& 31) = v) (hp : pc + 1 = pc') (k : JJ p l e R s m args below meth c Q nL D cl A Z cells slots ws pc' lv (.int v :: st)) : JJ p l e R s m args below meth c Q nL D cl A Z cells slots ws pc lv (.int y :: .int x :: st) := by
  subst hp; subst hv; exact fun H locs ls hP hD hZ hl => lv_ishr F.1.1 F.1.2.1 hdg  (k H locs ls hP hD hZ hl)
theorem jy_idiv (F : jy_F p m c cc nL s args Ts own D cl tys) {x y v : Int32} (hdg : decode cc pc = .ok (.idiv, 1)) (hne : ¬ y = 0) (hv : x / y = v) (hp : pc + 1 = pc') (k : JJ p l e R s m args below meth c Q nL D cl A Z cells slots ws pc' lv (.int v :: st)) : JJ p l e R s m args below meth c Q nL D cl A Z cells slots ws pc lv (.int y :: .int x :: st) := by
  subst hp; subst hv; exact fun H locs ls hP hD hZ hl => lv_idiv F.1.1 F.1.2.1 hdg hne (k H locs ls hP hD hZ hl)
theorem jy_irem (F : jy_F p m c cc nL s args Ts own D cl tys) {x y v : Int32} (hdg : decode cc pc = .ok (.irem, 1)) (hne : ¬ y = 0) (hv : x - x / y * y = v) (hp : pc + 1 = pc') (k : JJ p l e R s m args below meth c Q nL D cl A Z cells slots ws pc' lv (.int v :: st)) : JJ p l e R s m args below meth c Q nL D cl A Z cells slots ws pc lv (.int y :: .int x :: st) := by
  subst hp; subst hv; exact fun H locs ls hP hD hZ hl => lv_irem F.1.1 F.1.2.1 hdg hne (k H locs ls hP hD hZ hl)
theorem jy_ladd (F : jy_F p m c cc nL s args Ts own D cl tys) {x y v : Int64} (hdg : decode cc pc = .ok (.ladd, 1)) (hv : x + y = v) (hp : pc + 1 = pc') (k : JJ p l e R s m args below meth c Q nL D cl A Z cells slots ws pc' lv (.long v :: st)) : JJ p l e R s m args below meth c Q nL D cl A Z cells slots ws pc lv (.long y :: .long x :: st) := by
  subst hp; subst hv; exact fun H locs ls hP hD hZ hl => lv_ladd F.1.1 F.1.2.1 hdg  (k H locs ls hP hD hZ hl)
theorem jy_lsub (F : jy_F p m c cc nL s args Ts own D cl tys) {x y v : Int64} (hdg : decode cc pc = .ok (.lsub, 1)) (hv : x - y = v) (hp : pc + 1 = pc') (k : JJ p l e R s m args below meth c Q nL D cl A Z cells slots ws pc' lv (.long v :: st)) : JJ p l e R s m args below meth c Q nL D cl A Z cells slots ws pc lv (.long y :: .long x :: st) := by
  subst hp; subst hv; exact fun H locs ls hP hD hZ hl => lv_lsub F.1.1 F.1.2.1 hdg  (k H locs ls hP hD hZ hl)
theorem jy_lmul (F : jy_F p m c cc nL s args Ts own D cl tys) {x y v : Int64} (hdg : decode cc pc = .ok (.lmul, 1)) (hv : x * y = v) (hp : pc + 1 = pc') (k : JJ p l e R s m args below meth c Q nL D cl A Z cells slots ws pc' lv (.long v :: st)) : JJ p l e R s m args below meth c Q nL D cl A Z cells slots ws pc lv (.long y :: .long x :: st) := by
  subst hp; subst hv; exact fun H locs ls hP hD hZ hl => lv_lmul F.1.1 F.1.2.1 hdg  (k H locs ls hP hD hZ hl)
theorem jy_land (F : jy_F p m c cc nL s args Ts own D cl tys) {x y v : Int64} (hdg : decode cc pc = .ok (.land, 1)) (hv : x &&& y = v) (hp : pc + 1 = pc') (k : JJ p l e R s m args below meth c Q nL D cl A Z cells slots ws pc' lv (.long v :: st)) : JJ p l e R s m args below meth c Q nL D cl A Z cells slots ws pc lv (.long y :: .long x :: st) := by
  subst hp; subst hv; exact fun H locs ls hP hD hZ hl => lv_land F.1.1 F.1.2.1 hdg  (k H locs ls hP hD hZ hl)
theorem jy_lor (F : jy_F p m c cc nL s args Ts own D cl tys) {x y v : Int64} (hdg : decode cc pc = .ok (.lor, 1)) (hv : x ||| y = v) (hp : pc + 1 = pc') (k : JJ p l e R s m args below meth c Q nL D cl A Z cells slots ws pc' lv (.long v :: st)) : JJ p l e R s m args below meth c Q nL D cl A Z cells slots ws pc lv (.long y :: .long x :: st) := by
  subst hp; subst hv; exact fun H locs ls hP hD hZ hl => lv_lor F.1.1 F.1.2.1 hdg  (k H locs ls hP hD hZ hl)
theorem jy_i2l (F : jy_F p m c cc nL s args Ts own D cl tys) {x : Int32} {v : Int64} (hdg : decode cc pc = .ok (.i2l, 1)) (hv : x.toInt64 = v) (hp : pc + 1 = pc') (k : JJ p l e R s m args below meth c Q nL D cl A Z cells slots ws pc' lv (.long v :: st)) : JJ p l e R s m args below meth c Q nL D cl A Z cells slots ws pc lv (.int x :: st) := by
  subst hp; exact fun H locs ls hP hD hZ hl => lv_i2l F.1.1 F.1.2.1 hdg hv (k H locs ls hP hD hZ hl)
theorem jy_l2i (F : jy_F p m c cc nL s args Ts own D cl tys) {x : Int64} {v : Int32} (hdg : decode cc pc = .ok (.l2i, 1)) (hv : x.toInt32 = v) (hp : pc + 1 = pc') (k : JJ p l e R s m args below meth c Q nL D cl A Z cells slots ws pc' lv (.int v :: st)) : JJ p l e R s m args below meth c Q nL D cl A Z cells slots ws pc lv (.long x :: st) := by
  subst hp; exact fun H locs ls hP hD hZ hl => lv_l2i F.1.1 F.1.2.1 hdg hv (k H locs ls hP hD hZ hl)
theorem jy_i2b (F : jy_F p m c cc nL s args Ts own D cl tys) {x : Int32} {v : Int32} (hdg : decode cc pc = .ok (.i2b, 1)) (hv : x.toInt8.toInt32 = v) (hp : pc + 1 = pc') (k : JJ p l e R s m args below meth c Q nL D cl A Z cells slots ws pc' lv (.int v :: st)) : JJ p l e R s m args below meth c Q nL D cl A Z cells slots ws pc lv (.int x :: st) := by
  subst hp; exact fun H locs ls hP hD hZ hl => lv_i2b F.1.1 F.1.2.1 hdg hv (k H locs ls hP hD hZ hl)
theorem jy_i2s (F : jy_F p m c cc nL s args Ts own D cl tys) {x : Int32} {v : Int32} (hdg : decode cc pc = .ok (.i2s, 1)) (hv : x.toInt16.toInt32 = v) (hp : pc + 1 = pc') (k : JJ p l e R s m args below meth c Q nL D cl A Z cells slots ws pc' lv (.int v :: st)) : JJ p l e R s m args below meth c Q nL D cl A Z cells slots ws pc lv (.int x :: st) := by
  subst hp; exact fun H locs ls hP hD hZ hl => lv_i2s F.1.1 F.1.2.1 hdg hv (k H locs ls hP hD hZ hl)
theorem jy_lshl (F : jy_F p m c cc nL s args Ts own D cl tys) {x v : Int64} {y : Int32} (hdg : decode cc pc = .ok (.lshl, 1)) (hv : x <<< (y.toInt64 &&& 63) = v) (hp : pc + 1 = pc') (k : JJ p l e R s m args below meth c Q nL D cl A Z cells slots ws pc' lv (.long v :: st)) : JJ p l e R s m args below meth c Q nL D cl A Z cells slots ws pc lv (.int y :: .long x :: st) := by
  subst hp; exact fun H locs ls hP hD hZ hl => lv_lshl F.1.1 F.1.2.1 hdg hv (k H locs ls hP hD hZ hl)
theorem jy_dup (F : jy_F p m c cc nL s args Ts own D cl tys) {va : Value} (hdg : decode cc pc = .ok (.dup, 1)) (hva : va.category = 1) (hp : pc + 1 = pc') (k : JJ p l e R s m args below meth c Q nL D cl A Z cells slots ws pc' lv (va :: va :: st)) : JJ p l e R s m args below meth c Q nL D cl A Z cells slots ws pc lv (va :: st) := by
  subst hp; exact fun H locs ls hP hD hZ hl => lv_dup F.1.1 F.1.2.1 hdg hva (k H locs ls hP hD hZ hl)
theorem jy_pop (F : jy_F p m c cc nL s args Ts own D cl tys) {va : Value} (hdg : decode cc pc = .ok (.pop, 1)) (hva : va.category = 1) (hp : pc + 1 = pc') (k : JJ p l e R s m args below meth c Q nL D cl A Z cells slots ws pc' lv st) : JJ p l e R s m args below meth c Q nL D cl A Z cells slots ws pc lv (va :: st) := by
  subst hp; exact fun H locs ls hP hD hZ hl => lv_pop F.1.1 F.1.2.1 hdg hva (k H locs ls hP hD hZ hl)
theorem jy_dup_x1 (F : jy_F p m c cc nL s args Ts own D cl tys) {va vb : Value} (hdg : decode cc pc = .ok (.dup_x1, 1)) (hva : va.category = 1) (hvb : vb.category = 1) (hp : pc + 1 = pc') (k : JJ p l e R s m args below meth c Q nL D cl A Z cells slots ws pc' lv (va :: vb :: va :: st)) : JJ p l e R s m args below meth c Q nL D cl A Z cells slots ws pc lv (va :: vb :: st) := by
  subst hp; exact fun H locs ls hP hD hZ hl => lv_dup_x1 F.1.1 F.1.2.1 hdg hva hvb (k H locs ls hP hD hZ hl)
theorem jy_if_eq (F : jy_F p m c cc nL s args Ts own D cl tys) {x : Int32} {off : Int} {tgt : Nat} (hdg : decode cc pc = .ok (.ifCond .eq off, 3)) (ht : (pc : Int) + off = (tgt : Int)) (hp : pc + 3 = pc') (kt : x = 0 → JJ p l e R s m args below meth c Q nL D cl A Z cells slots ws tgt lv st) (kf : ¬ x = 0 → JJ p l e R s m args below meth c Q nL D cl A Z cells slots ws pc' lv st) : JJ p l e R s m args below meth c Q nL D cl A Z cells slots ws pc lv (.int x :: st) := by
  subst hp; exact fun H locs ls hP hD hZ hl => lv_if_eq F.1.1 F.1.2.1 hdg ht (fun h => kt h H locs ls hP hD hZ hl) (fun h => kf h H locs ls hP hD hZ hl)
theorem jy_icmp_eq (F : jy_F p m c cc nL s args Ts own D cl tys) {x y : Int32} {off : Int} {tgt : Nat} (hdg : decode cc pc = .ok (.if_icmp .eq off, 3)) (ht : (pc : Int) + off = (tgt : Int)) (hp : pc + 3 = pc') (kt : x = y → JJ p l e R s m args below meth c Q nL D cl A Z cells slots ws tgt lv st) (kf : ¬ x = y → JJ p l e R s m args below meth c Q nL D cl A Z cells slots ws pc' lv st) : JJ p l e R s m args below meth c Q nL D cl A Z cells slots ws pc lv (.int y :: .int x :: st) := by
  subst hp; exact fun H locs ls hP hD hZ hl => lv_icmp_eq F.1.1 F.1.2.1 hdg ht (fun h => kt h H locs ls hP hD hZ hl) (fun h => kf h H locs ls hP hD hZ hl)
theorem jy_if_ne (F : jy_F p m c cc nL s args Ts own D cl tys) {x : Int32} {off : Int} {tgt : Nat} (hdg : decode cc pc = .ok (.ifCond .ne off, 3)) (ht : (pc : Int) + off = (tgt : Int)) (hp : pc + 3 = pc') (kt : ¬ x = 0 → JJ p l e R s m args below meth c Q nL D cl A Z cells slots ws tgt lv st) (kf : x = 0 → JJ p l e R s m args below meth c Q nL D cl A Z cells slots ws pc' lv st) : JJ p l e R s m args below meth c Q nL D cl A Z cells slots ws pc lv (.int x :: st) := by
  subst hp; exact fun H locs ls hP hD hZ hl => lv_if_ne F.1.1 F.1.2.1 hdg ht (fun h => kt h H locs ls hP hD hZ hl) (fun h => kf h H locs ls hP hD hZ hl)
theorem jy_icmp_ne (F : jy_F p m c cc nL s args Ts own D cl tys) {x y : Int32} {off : Int} {tgt : Nat} (hdg : decode cc pc = .ok (.if_icmp .ne off, 3)) (ht : (pc : Int) + off = (tgt : Int)) (hp : pc + 3 = pc') (kt : ¬ x = y → JJ p l e R s m args below meth c Q nL D cl A Z cells slots ws tgt lv st) (kf : x = y → JJ p l e R s m args below meth c Q nL D cl A Z cells slots ws pc' lv st) : JJ p l e R s m args below meth c Q nL D cl A Z cells slots ws pc lv (.int y :: .int x :: st) := by
  subst hp; exact fun H locs ls hP hD hZ hl => lv_icmp_ne F.1.1 F.1.2.1 hdg ht (fun h => kt h H locs ls hP hD hZ hl) (fun h => kf h H locs ls hP hD hZ hl)
theorem jy_if_lt (F : jy_F p m c cc nL s args Ts own D cl tys) {x : Int32} {off : Int} {tgt : Nat} (hdg : decode cc pc = .ok (.ifCond .lt off, 3)) (ht : (pc : Int) + off = (tgt : Int)) (hp : pc + 3 = pc') (kt : x < 0 → JJ p l e R s m args below meth c Q nL D cl A Z cells slots ws tgt lv st) (kf : ¬ x < 0 → JJ p l e R s m args below meth c Q nL D cl A Z cells slots ws pc' lv st) : JJ p l e R s m args below meth c Q nL D cl A Z cells slots ws pc lv (.int x :: st) := by
  subst hp; exact fun H locs ls hP hD hZ hl => lv_if_lt F.1.1 F.1.2.1 hdg ht (fun h => kt h H locs ls hP hD hZ hl) (fun h => kf h H locs ls hP hD hZ hl)
theorem jy_icmp_lt (F : jy_F p m c cc nL s args Ts own D cl tys) {x y : Int32} {off : Int} {tgt : Nat} (hdg : decode cc pc = .ok (.if_icmp .lt off, 3)) (ht : (pc : Int) + off = (tgt : Int)) (hp : pc + 3 = pc') (kt : x < y → JJ p l e R s m args below meth c Q nL D cl A Z cells slots ws tgt lv st) (kf : ¬ x < y → JJ p l e R s m args below meth c Q nL D cl A Z cells slots ws pc' lv st) : JJ p l e R s m args below meth c Q nL D cl A Z cells slots ws pc lv (.int y :: .int x :: st) := by
  subst hp; exact fun H locs ls hP hD hZ hl => lv_icmp_lt F.1.1 F.1.2.1 hdg ht (fun h => kt h H locs ls hP hD hZ hl) (fun h => kf h H locs ls hP hD hZ hl)
theorem jy_if_ge (F : jy_F p m c cc nL s args Ts own D cl tys) {x : Int32} {off : Int} {tgt : Nat} (hdg : decode cc pc = .ok (.ifCond .ge off, 3)) (ht : (pc : Int) + off = (tgt : Int)) (hp : pc + 3 = pc') (kt : 0 ≤ x → JJ p l e R s m args below meth c Q nL D cl A Z cells slots ws tgt lv st) (kf : ¬ 0 ≤ x → JJ p l e R s m args below meth c Q nL D cl A Z cells slots ws pc' lv st) : JJ p l e R s m args below meth c Q nL D cl A Z cells slots ws pc lv (.int x :: st) := by
  subst hp; exact fun H locs ls hP hD hZ hl => lv_if_ge F.1.1 F.1.2.1 hdg ht (fun h => kt h H locs ls hP hD hZ hl) (fun h => kf h H locs ls hP hD hZ hl)
theorem jy_icmp_ge (F : jy_F p m c cc nL s args Ts own D cl tys) {x y : Int32} {off : Int} {tgt : Nat} (hdg : decode cc pc = .ok (.if_icmp .ge off, 3)) (ht : (pc : Int) + off = (tgt : Int)) (hp : pc + 3 = pc') (kt : y ≤ x → JJ p l e R s m args below meth c Q nL D cl A Z cells slots ws tgt lv st) (kf : ¬ y ≤ x → JJ p l e R s m args below meth c Q nL D cl A Z cells slots ws pc' lv st) : JJ p l e R s m args below meth c Q nL D cl A Z cells slots ws pc lv (.int y :: .int x :: st) := by
  subst hp; exact fun H locs ls hP hD hZ hl => lv_icmp_ge F.1.1 F.1.2.1 hdg ht (fun h => kt h H locs ls hP hD hZ hl) (fun h => kf h H locs ls hP hD hZ hl)
theorem jy_if_gt (F : jy_F p m c cc nL s args Ts own D cl tys) {x : Int32} {off : Int} {tgt : Nat} (hdg : decode cc pc = .ok (.ifCond .gt off, 3)) (ht : (pc : Int) + off = (tgt : Int)) (hp : pc + 3 = pc') (kt : 0 < x → JJ p l e R s m args below meth c Q nL D cl A Z cells slots ws tgt lv st) (kf : ¬ 0 < x → JJ p l e R s m args below meth c Q nL D cl A Z cells slots ws pc' lv st) : JJ p l e R s m args below meth c Q nL D cl A Z cells slots ws pc lv (.int x :: st) := by
  subst hp; exact fun H locs ls hP hD hZ hl => lv_if_gt F.1.1 F.1.2.1 hdg ht (fun h => kt h H locs ls hP hD hZ hl) (fun h => kf h H locs ls hP hD hZ hl)
theorem jy_icmp_gt (F : jy_F p m c cc nL s args Ts own D cl tys) {x y : Int32} {off : Int} {tgt : Nat} (hdg : decode cc pc = .ok (.if_icmp .gt off, 3)) (ht : (pc : Int) + off = (tgt : Int)) (hp : pc + 3 = pc') (kt : y < x → JJ p l e R s m args below meth c Q nL D cl A Z cells slots ws tgt lv st) (kf : ¬ y < x → JJ p l e R s m args below meth c Q nL D cl A Z cells slots ws pc' lv st) : JJ p l e R s m args below meth c Q nL D cl A Z cells slots ws pc lv (.int y :: .int x :: st) := by
  subst hp; exact fun H locs ls hP hD hZ hl => lv_icmp_gt F.1.1 F.1.2.1 hdg ht (fun h => kt h H locs ls hP hD hZ hl) (fun h => kf h H locs ls hP hD hZ hl)
theorem jy_if_le (F : jy_F p m c cc nL s args Ts own D cl tys) {x : Int32} {off : Int} {tgt : Nat} (hdg : decode cc pc = .ok (.ifCond .le off, 3)) (ht : (pc : Int) + off = (tgt : Int)) (hp : pc + 3 = pc') (kt : x ≤ 0 → JJ p l e R s m args below meth c Q nL D cl A Z cells slots ws tgt lv st) (kf : ¬ x ≤ 0 → JJ p l e R s m args below meth c Q nL D cl A Z cells slots ws pc' lv st) : JJ p l e R s m args below meth c Q nL D cl A Z cells slots ws pc lv (.int x :: st) := by
  subst hp; exact fun H locs ls hP hD hZ hl => lv_if_le F.1.1 F.1.2.1 hdg ht (fun h => kt h H locs ls hP hD hZ hl) (fun h => kf h H locs ls hP hD hZ hl)
theorem jy_icmp_le (F : jy_F p m c cc nL s args Ts own D cl tys) {x y : Int32} {off : Int} {tgt : Nat} (hdg : decode cc pc = .ok (.if_icmp .le off, 3)) (ht : (pc : Int) + off = (tgt : Int)) (hp : pc + 3 = pc') (kt : x ≤ y → JJ p l e R s m args below meth c Q nL D cl A Z cells slots ws tgt lv st) (kf : ¬ x ≤ y → JJ p l e R s m args below meth c Q nL D cl A Z cells slots ws pc' lv st) : JJ p l e R s m args below meth c Q nL D cl A Z cells slots ws pc lv (.int y :: .int x :: st) := by
  subst hp; exact fun H locs ls hP hD hZ hl => lv_icmp_le F.1.1 F.1.2.1 hdg ht (fun h => kt h H locs ls hP hD hZ hl) (fun h => kf h H locs ls hP hD hZ hl)
theorem jy_goto (F : jy_F p m c cc nL s args Ts own D cl tys) {off : Int} {tgt : Nat} (hdg : decode cc pc = .ok (.goto off, 3)) (ht : (pc : Int) + off = (tgt : Int)) (k : JJ p l e R s m args below meth c Q nL D cl A Z cells slots ws tgt lv st) : JJ p l e R s m args below meth c Q nL D cl A Z cells slots ws pc lv st :=
  fun H locs ls hP hD hZ hl => lv_goto F.1.1 F.1.2.1 hdg ht (k H locs ls hP hD hZ hl)
theorem jy_ldc (F : jy_F p m c cc nL s args Ts own D cl tys) {index : Nat} {v : Int32} (hdg : decode cc pc = .ok (.ldc index, 2)) (hw : Jvm.Cond.constant own index v ∈ Ts) (hp : pc + 2 = pc') (k : JJ p l e R s m args below meth c Q nL D cl A Z cells slots ws pc' lv (.int v :: st)) : JJ p l e R s m args below meth c Q nL D cl A Z cells slots ws pc lv st := by
  subst hp; exact fun H locs ls hP hD hZ hl => lv_ldc F.1.1 F.1.2.1 F.1.2.2.2.1 (F.1.2.2.2.2 _ hw) hdg (k H locs ls hP hD hZ hl)
theorem jy_ldcw (F : jy_F p m c cc nL s args Ts own D cl tys) {index : Nat} {v : Int32} (hdg : decode cc pc = .ok (.ldc_w index, 3)) (hw : Jvm.Cond.constant own index v ∈ Ts) (hp : pc + 3 = pc') (k : JJ p l e R s m args below meth c Q nL D cl A Z cells slots ws pc' lv (.int v :: st)) : JJ p l e R s m args below meth c Q nL D cl A Z cells slots ws pc lv st := by
  subst hp; exact fun H locs ls hP hD hZ hl => lv_ldcw F.1.1 F.1.2.1 F.1.2.2.2.1 (F.1.2.2.2.2 _ hw) hdg (k H locs ls hP hD hZ hl)
theorem jy_ldc2 (F : jy_F p m c cc nL s args Ts own D cl tys) {index : Nat} {v : Int64} (hdg : decode cc pc = .ok (.ldc2_w index, 3)) (hw : Jvm.Cond.constantLong own index v ∈ Ts) (hp : pc + 3 = pc') (k : JJ p l e R s m args below meth c Q nL D cl A Z cells slots ws pc' lv (.long v :: st)) : JJ p l e R s m args below meth c Q nL D cl A Z cells slots ws pc lv st := by
  subst hp; exact fun H locs ls hP hD hZ hl => lv_ldc2 F.1.1 F.1.2.1 F.1.2.2.2.1 (F.1.2.2.2.2 _ hw) hdg (k H locs ls hP hD hZ hl)
theorem jy_topi {x : Int32} (k : ∀ y : Int32, y = x → JJ p l e R s m args below meth c Q nL D cl A Z cells slots ws pc lv (.int y :: st)) : JJ p l e R s m args below meth c Q nL D cl A Z cells slots ws pc lv (.int x :: st) := k x rfl
theorem jy_topl {x : Int64} (k : ∀ y : Int64, y = x → JJ p l e R s m args below meth c Q nL D cl A Z cells slots ws pc lv (.long y :: st)) : JJ p l e R s m args below meth c Q nL D cl A Z cells slots ws pc lv (.long x :: st) := k x rfl
theorem jy_widen {cells' slots' : Nat} (h1 : cells ≤ cells') (h2 : slots ≤ slots') (k : JJ p l e R s m args below meth c Q nL D cl A Z cells' slots' ws pc lv st) : JJ p l e R s m args below meth c Q nL D cl A Z cells slots ws pc lv st :=
  fun H locs ls hP hD hZ hl => W.widen h1 h2 (k H locs ls hP hD hZ hl)
theorem jy_ws {ws' : va_W} (h : ws = ws') (k : JJ p l e R s m args below meth c Q nL D cl A Z cells slots ws' pc lv st) : JJ p l e R s m args below meth c Q nL D cl A Z cells slots ws pc lv st := h ▸ k
/-- fewer cells, or in another order -/
theorem jy_sub {ws' : va_W} (is : List Nat) (hs : is.map (fun i => ws[i]?) = ws'.map some) (hd : va_nd is = true) (k : JJ p l e R s m args below meth c Q nL D cl A Z cells slots ws' pc lv st) : JJ p l e R s m args below meth c Q nL D cl A Z cells slots ws pc lv st :=
  fun H locs ls hP hD hZ hl => k H locs ls (hP.sub is (jy_fm hs)) (hD.sub is hd hs) hZ hl
theorem jy_lpick {lv' : List (Nat × Value)} (ks : List Nat) (hs : lv_pick lv ks = lv') (k : JJ p l e R s m args below meth c Q nL D cl A Z cells slots ws pc lv' st) : JJ p l e R s m args below meth c Q nL D cl A Z cells slots ws pc lv st :=
  fun H locs ls hP hD hZ hl => k H locs ls hP hD hZ (lv_sub hl ks hs)
theorem jy_get (F : jy_F p m c cc nL s args Ts own D cl tys) {a index : Nat} {C : String} {T : u_T} {N ci : Nat} {fs : List Value} {v : Value} (hin : ∀ w ∈ u_ws C T N, w ∈ Ts) (q0 : Nat) (he : ws[q0]? = some (a, .inr (ci, fs))) (hc : cl[ci]? = some (C, T, N)) (k : Nat) (hk : k < N) (hdg : decode cc pc = .ok (.getfield index, 3)) (hw : Cond.fieldLink own index (T k).1 (T k).2.1 (T k).2.2.1 ∈ Ts) (hv : fs[k]? = some v) (hp : pc + 3 = pc') (kk : JJ p l e R s m args below meth c Q nL D cl A Z cells slots ws pc' lv (v :: st)) : JJ p l e R s m args below meth c Q nL D cl A Z cells slots ws pc lv (.ref a :: st) := by
  subst hp; exact fun H locs ls hP hD hZ hl => va_get F.1.1 F.1.2.1 F.1.2.2.2.2 hin F.1.2.2.2.1 F.2 hP q0 he hc k hk (F.1.2.2.2.2 _ hw) (fun _ h => h) hv hdg (kk H locs ls hP hD hZ hl)
theorem jy_getN (F : jy_F p m c cc nL s args Ts own D cl tys) {a index : Nat} {C host : String} {T : u_T} {N ci : Nat} {fs : List Value} {v : Value} (hin : ∀ w ∈ u_ws C T N, w ∈ Ts) (q0 : Nat) (he : ws[q0]? = some (a, .inr (ci, fs))) (hc : cl[ci]? = some (C, T, N)) (k : Nat) (hk : k < N) (hdg : decode cc pc = .ok (.getfield index, 3)) (hw : va_Nw (Cond.fieldLinkNest own index (T k).1 (T k).2.1 (T k).2.2.1 host) s) (hv : fs[k]? = some v) (hp : pc + 3 = pc') (kk : JJ p l e R s m args below meth c Q nL D cl A Z cells slots ws pc' lv (v :: st)) : JJ p l e R s m args below meth c Q nL D cl A Z cells slots ws pc lv (.ref a :: st) := by
  subst hp; exact fun H locs ls hP hD hZ hl => va_getN F.1.1 F.1.2.1 F.1.2.2.2.2 hin F.1.2.2.2.1 F.2 hP q0 he hc k hk (hw.use rfl) (fun _ h => h) hv hdg (kk H locs ls hP hD hZ hl)
theorem jy_put (F : jy_F p m c cc nL s args Ts own D cl tys) {a index : Nat} {C : String} {T : u_T} {N ci : Nat} {fs : List Value} {v : Value} {ty : FieldType} {ws' : va_W} (hin : ∀ w ∈ u_ws C T N, w ∈ Ts) (ty0 : Nat → FieldType) (hty : ∀ k, k < N → parseFieldDescriptor (T k).2.2.1 = some (ty0 k)) (hnm : ∀ a, a < N → ∀ b, b < N → a ≠ b → (T a).2.1 ≠ (T b).2.1) (q0 : Nat) (he : ws[q0]? = some (a, .inr (ci, fs))) (hc : cl[ci]? = some (C, T, N)) (k : Nat) (hk : k < N) (hdg : decode cc pc = .ok (.putfield index, 3)) (hw : Cond.fieldLink own index (T k).1 (T k).2.1 (T k).2.2.1 ∈ Ts) (hfin : (T k).2.2.2 = false) (hd : ty0 k = ty) (hn : narrow ty v = v) (hfit : fits ty v = true) (hlen : k < fs.length) (hws : ws.set q0 (a, .inr (ci, fs.set k v)) = ws') (hp : pc + 3 = pc') (kk : JJ p l e R s m args below meth c Q nL D cl A (va_S A H0) cells slots ws' pc' lv st) : JJ p l e R s m args below meth c Q nL D cl A (va_S A H0) cells slots ws pc lv (v :: .ref a :: st) := by
  subst hp; subst hws; subst hd; exact fun H locs ls hP hD hZ hl => va_put F.1.1 F.1.2.1 F.1.2.2.2.2 hin ty0 hty hnm F.1.2.2.2.1 F.2 hP hD hZ q0 he hc k hk (F.1.2.2.2.2 _ hw) (fun _ h => h) hfin (hty k hk) hn hfit hlen hdg (fun H1 locs1 hP hD hZ => kk H1 locs1 ls hP hD hZ hl)
theorem jy_putF (F : jy_F p m c cc nL s args Ts own D cl tys) {a index : Nat} {C : String} {T : u_T} {N ci : Nat} {fs : List Value} {v : Value} {ty : FieldType} {ws' : va_W} (hin : ∀ w ∈ u_ws C T N, w ∈ Ts) (ty0 : Nat → FieldType) (hty : ∀ k, k < N → parseFieldDescriptor (T k).2.2.1 = some (ty0 k)) (hnm : ∀ a, a < N → ∀ b, b < N → a ≠ b → (T a).2.1 ≠ (T b).2.1) (q0 : Nat) (he : ws[q0]? = some (a, .inr (ci, fs))) (hc : cl[ci]? = some (C, T, N)) (k : Nat) (hk : k < N) (hdg : decode cc pc = .ok (.putfield index, 3)) (hw : Cond.fieldLink own index (T k).1 (T k).2.1 (T k).2.2.1 ∈ Ts) (hfin : (T k).2.2.2 = true) (hin2 : meth.name = "<init>") (hdecl : (T k).1 = own) (hd : ty0 k = ty) (hn : narrow ty v = v) (hfit : fits ty v = true) (hlen : k < fs.length) (hws : ws.set q0 (a, .inr (ci, fs.set k v)) = ws') (hp : pc + 3 = pc') (kk : JJ p l e R s m args below meth c Q nL D cl A (va_S A H0) cells slots ws' pc' lv st) : JJ p l e R s m args below meth c Q nL D cl A (va_S A H0) cells slots ws pc lv (v :: .ref a :: st) := by
  subst hp; subst hws; subst hd; exact fun H locs ls hP hD hZ hl => va_putF F.1.1 F.1.2.1 F.1.2.2.2.2 hin ty0 hty hnm F.1.2.2.2.1 F.2 hP hD hZ q0 he hc k hk (F.1.2.2.2.2 _ hw) (fun _ h => h) hfin hin2 hdecl (hty k hk) hn hfit hlen hdg (fun H1 locs1 hP hD hZ => kk H1 locs1 ls hP hD hZ hl)
theorem jy_new (F : jy_F p m c cc nL s args Ts own D cl tys) {index : Nat} {C : String} {T : u_T} {N ci : Nat} {fs : List Value} {ws' : Nat → va_W} {cells' slots' : Nat} (hA : ∀ q, H0.size ≤ q → A q) (hin : ∀ w ∈ u_ws C T N, w ∈ Ts) (ty : Nat → FieldType) (hty : ∀ k, k < N → parseFieldDescriptor (T k).2.2.1 = some (ty k)) (hc : cl[ci]? = some (C, T, N)) (hfs : ∀ j, j < N → defaultValue (ty j) = vp_V fs j) (hdg : decode cc pc = .ok (.new index, 3)) (h1 : Cond.classLink own index C ∈ Ts) (h2 : Cond.instantiable C N ∈ Ts) (h3 : Cond.initialized C ∈ Ts) (hcells : cells + 1 = cells') (hslots : slots + N = slots') (hcr : cells' ≤ R.cells) (hsr : slots' ≤ R.slots) (hws : ∀ q, ws ++ [(q, .inr (ci, fs))] = ws' q) (hp : pc + 3 = pc') (kk : ∀ q : Nat, JJ p l e R s m args below meth c Q nL D cl A (va_S A H0) cells' slots' (ws' q) pc' lv (.ref q :: st)) : JJ p l e R s m args below meth c Q nL D cl A (va_S A H0) cells slots ws pc lv st := by
  subst hp; subst hcells; subst hslots; exact fun H locs ls hP hD hZ hl => va_new F.1.1 F.1.2.1 F.1.2.2.2.2 hin ty hty F.1.2.2.2.1 (F.1.2.2.2.2 _ h1) (F.1.2.2.2.2 _ h2) (F.1.2.2.2.2 _ h3) F.2 hP hD hZ hA hc hfs hcr hsr hdg (fun q H1 hP hD hZ => kk q H1 locs ls (hws q ▸ hP) (hws q ▸ hD) hZ hl)
theorem jy_iald (F : jy_F p m c cc nL s args Ts own D cl tys) {a n : Nat} {cA : ClassId} {f : Nat → Int32} {i : Int32} {v : Int32} (q0 t0 : Nat) (ha : ws[q0]? = some (a, .inl (cA, n, .inl f))) (ht : tys[t0]? = some (cA, .int)) (hdg : decode cc pc = .ok (.iaload, 1)) (hi : vp_in i n) (hv : f i.toNatClampNeg = v) (hp : pc + 1 = pc') (kk : JJ p l e R s m args below meth c Q nL D cl A Z cells slots ws pc' lv (.int v :: st)) : JJ p l e R s m args below meth c Q nL D cl A Z cells slots ws pc lv (.int i :: .ref a :: st) := by
  subst hp; subst hv; exact fun H locs ls hP hD hZ hl => va_iald F.1.1 F.1.2.1 F.2 hP q0 t0 ha ht hi hdg (kk H locs ls hP hD hZ hl)
theorem jy_bald (F : jy_F p m c cc nL s args Ts own D cl tys) {a n : Nat} {cA : ClassId} {f : Nat → Int32} {i : Int32} {v : Int32} (q0 t0 : Nat) (ha : ws[q0]? = some (a, .inl (cA, n, .inl f))) (ht : tys[t0]? = some (cA, .byte)) (hdg : decode cc pc = .ok (.baload, 1)) (hi : vp_in i n) (hv : f i.toNatClampNeg = v) (hp : pc + 1 = pc') (kk : JJ p l e R s m args below meth c Q nL D cl A Z cells slots ws pc' lv (.int v :: st)) : JJ p l e R s m args below meth c Q nL D cl A Z cells slots ws pc lv (.int i :: .ref a :: st) := by
  subst hp; subst hv; exact fun H locs ls hP hD hZ hl => va_bald F.1.1 F.1.2.1 F.2 hP q0 t0 ha ht hi hdg (kk H locs ls hP hD hZ hl)
theorem jy_lald (F : jy_F p m c cc nL s args Ts own D cl tys) {a n : Nat} {cA : ClassId} {f : Nat → Int64} {i : Int32} {v : Int64} (q0 t0 : Nat) (ha : ws[q0]? = some (a, .inl (cA, n, .inr (.inl f)))) (ht : tys[t0]? = some (cA, .long)) (hdg : decode cc pc = .ok (.laload, 1)) (hi : vp_in i n) (hv : f i.toNatClampNeg = v) (hp : pc + 1 = pc') (kk : JJ p l e R s m args below meth c Q nL D cl A Z cells slots ws pc' lv (.long v :: st)) : JJ p l e R s m args below meth c Q nL D cl A Z cells slots ws pc lv (.int i :: .ref a :: st) := by
  subst hp; subst hv; exact fun H locs ls hP hD hZ hl => va_lald F.1.1 F.1.2.1 F.2 hP q0 t0 ha ht hi hdg (kk H locs ls hP hD hZ hl)
theorem jy_iast (F : jy_F p m c cc nL s args Ts own D cl tys) {a n : Nat} {cA : ClassId} {f g : Nat → Int32} {i : Int32} {x : Int32} {ws' : va_W} (q0 t0 : Nat) (ha : ws[q0]? = some (a, .inl (cA, n, .inl f))) (ht : tys[t0]? = some (cA, .int)) (hdg : decode cc pc = .ok (.iastore, 1)) (hi : vp_in i n) (hg : upd f i.toNatClampNeg x = g) (hws : ws.set q0 (a, .inl (cA, n, .inl g)) = ws') (hp : pc + 1 = pc') (kk : JJ p l e R s m args below meth c Q nL D cl A (va_S A H0) cells slots ws' pc' lv st) : JJ p l e R s m args below meth c Q nL D cl A (va_S A H0) cells slots ws pc lv (.int x :: .int i :: .ref a :: st) := by
  subst hp; subst hg; subst hws; exact fun H locs ls hP hD hZ hl => va_iast F.1.1 F.1.2.1 F.2 hP hD hZ q0 t0 ha ht hi hdg (fun H1 locs1 hP hD hZ => kk H1 locs1 ls hP hD hZ hl)
theorem jy_bast (F : jy_F p m c cc nL s args Ts own D cl tys) {a n : Nat} {cA : ClassId} {f g : Nat → Int32} {i : Int32} {x : Int32} {ws' : va_W} (q0 t0 : Nat) (ha : ws[q0]? = some (a, .inl (cA, n, .inl f))) (ht : tys[t0]? = some (cA, .byte)) (hdg : decode cc pc = .ok (.bastore, 1)) (hi : vp_in i n) (hg : upd f i.toNatClampNeg (vp_nar .byte x) = g) (hws : ws.set q0 (a, .inl (cA, n, .inl g)) = ws') (hp : pc + 1 = pc') (kk : JJ p l e R s m args below meth c Q nL D cl A (va_S A H0) cells slots ws' pc' lv st) : JJ p l e R s m args below meth c Q nL D cl A (va_S A H0) cells slots ws pc lv (.int x :: .int i :: .ref a :: st) := by
  subst hp; subst hg; subst hws; exact fun H locs ls hP hD hZ hl => va_bast F.1.1 F.1.2.1 F.2 hP hD hZ q0 t0 ha ht hi hdg (fun H1 locs1 hP hD hZ => kk H1 locs1 ls hP hD hZ hl)
theorem jy_last (F : jy_F p m c cc nL s args Ts own D cl tys) {a n : Nat} {cA : ClassId} {f g : Nat → Int64} {i : Int32} {x : Int64} {ws' : va_W} (q0 t0 : Nat) (ha : ws[q0]? = some (a, .inl (cA, n, .inr (.inl f)))) (ht : tys[t0]? = some (cA, .long)) (hdg : decode cc pc = .ok (.lastore, 1)) (hi : vp_in i n) (hg : vp_updL f i.toNatClampNeg x = g) (hws : ws.set q0 (a, .inl (cA, n, .inr (.inl g))) = ws') (hp : pc + 1 = pc') (kk : JJ p l e R s m args below meth c Q nL D cl A (va_S A H0) cells slots ws' pc' lv st) : JJ p l e R s m args below meth c Q nL D cl A (va_S A H0) cells slots ws pc lv (.long x :: .int i :: .ref a :: st) := by
  subst hp; subst hg; subst hws; exact fun H locs ls hP hD hZ hl => va_last F.1.1 F.1.2.1 F.2 hP hD hZ q0 t0 ha ht hi hdg (fun H1 locs1 hP hD hZ => kk H1 locs1 ls hP hD hZ hl)
theorem jy_aldq (F : jy_F p m c cc nL s args Ts own D cl tys) {a n : Nat} {cA : ClassId} {C : String} {f : Nat → Option Nat} {i : Int32} {v : Value} (q0 t0 : Nat) (ha : ws[q0]? = some (a, .inl (cA, n, .inr (.inr (.inr (.inr f)))))) (ht : tys[t0]? = some (cA, .object C)) (hdg : decode cc pc = .ok (.aaload, 1)) (hi : vp_in i n) (hv : va_rf (f i.toNatClampNeg) = v) (hp : pc + 1 = pc') (kk : JJ p l e R s m args below meth c Q nL D cl A Z cells slots ws pc' lv (v :: st)) : JJ p l e R s m args below meth c Q nL D cl A Z cells slots ws pc lv (.int i :: .ref a :: st) := by
  subst hp; subst hv; exact fun H locs ls hP hD hZ hl => va_aldq F.1.1 F.1.2.1 F.2 hP q0 t0 ha ht hi hdg (kk H locs ls hP hD hZ hl)
theorem jy_astq (F : jy_F p m c cc nL s args Ts own D cl tys) {a n v : Nat} {cA : ClassId} {r : vw_C} {vs : List Value} {f g : Nat → Option Nat} {i : Int32} {ws' : va_W} (q0 t0 qk ci : Nat) (ha : ws[q0]? = some (a, .inl (cA, n, .inr (.inr (.inr (.inr f)))))) (ht : tys[t0]? = some (cA, .object r.1)) (hv : ws[qk]? = some (v, .inr (ci, vs))) (hc : cl[ci]? = some r) (hdg : decode cc pc = .ok (.aastore, 1)) (hi : vp_in i n) (hg : va_up f i.toNatClampNeg (some v) = g) (hws : ws.set q0 (a, .inl (cA, n, .inr (.inr (.inr (.inr g))))) = ws') (hp : pc + 1 = pc') (kk : JJ p l e R s m args below meth c Q nL D cl A (va_S A H0) cells slots ws' pc' lv st) : JJ p l e R s m args below meth c Q nL D cl A (va_S A H0) cells slots ws pc lv (.ref v :: .int i :: .ref a :: st) := by
  subst hp; subst hg; subst hws; exact fun H locs ls hP hD hZ hl => va_astq F.1.1 F.1.2.1 F.2 hP hD hZ q0 t0 qk ci ha ht hv hc hi hdg (fun H1 locs1 hP hD hZ => kk H1 locs1 ls hP hD hZ hl)
theorem jy_alen (F : jy_F p m c cc nL s args Ts own D cl tys) {a : Nat} {cA : ClassId} {x : vp_A} {ty : FieldType} {v : Int32} (q0 t0 : Nat) (ha : ws[q0]? = some (a, .inl (cA, x))) (ht : tys[t0]? = some (cA, ty)) (hdg : decode cc pc = .ok (.arraylength, 1)) (hv : Int32.ofNat x.1 = v) (hp : pc + 1 = pc') (kk : JJ p l e R s m args below meth c Q nL D cl A Z cells slots ws pc' lv (.int v :: st)) : JJ p l e R s m args below meth c Q nL D cl A Z cells slots ws pc lv (.ref a :: st) := by
  subst hp; exact fun H locs ls hP hD hZ hl => va_alen F.1.1 F.1.2.1 F.2 hP q0 t0 ha ht hv hdg (kk H locs ls hP hD hZ hl)
/-- of one type there is one array class -/
theorem jy_one {cA cB : ClassId} {ty : FieldType} {U : State} (h1 : va_RA U cA ty) (h2 : va_RA U cB ty) : cB = cA := by
  cases ty with
  | object C =>
    obtain ⟨_, _, _, _, _, h3⟩ := h1
    obtain ⟨_, _, _, _, _, h4⟩ := h2
    exact Option.some.inj (h4.symm.trans h3)
  | _ => exact Option.some.inj (h2.symm.trans h1)
theorem jy_newa (F : jy_F p m c cc nL s args Ts own D cl tys) {atype : ArrayType} {ty : FieldType} {cA : ClassId} {n : Int32} {N' : Nat} {a0 : vp_A} {ws' : Nat → va_W} {cells' slots' : Nat} (hA : ∀ q, H0.size ≤ q → A q) (t0 : Nat) (ht : tys[t0]? = some (cA, ty)) (hty : newarray.typeOf atype = ty) (hdg : decode cc pc = .ok (.newarray atype, 2)) (harr : Cond.arrayClass (newarray.typeOf atype) ∈ Ts) (ha : ∀ cA : ClassId, vp_cell cA a0 = arrV cA N' (fun _ => defaultValue ty)) (hn : ¬ n < 0) (hN : n.toNatClampNeg = N') (hbytes : N' * componentBytes ty ≤ 536870912) (hcells : cells + 1 = cells') (hslots : slots + N' = slots') (hcr : cells' ≤ R.cells) (hsr : slots' ≤ R.slots) (hws : ∀ q, ws ++ [(q, .inl (cA, a0))] = ws' q) (hp : pc + 2 = pc') (kk : ∀ q : Nat, JJ p l e R s m args below meth c Q nL D cl A (va_S A H0) cells' slots' (ws' q) pc' lv (.ref q :: st)) : JJ p l e R s m args below meth c Q nL D cl A (va_S A H0) cells slots ws pc lv (.int n :: st) := by
  subst hp; subst hcells; subst hslots
  exact fun H locs ls hP hD hZ hl => va_newa F.1.1 F.1.2.1 (F.1.2.2.2.2 _ harr) hty F.2 hP hD hZ hA ha hn hN hbytes hcr hsr hdg (fun q cB H1 hK1 hP hD hZ => by
    have e := jy_one (F.2.2 t0 _ ht).2 (hK1.2 tys.length (cB, ty) (by rw [List.getElem?_append_right (Nat.le_refl _)]; simp)).2
    subst e
    exact kk q H1 locs ls (hws q ▸ hP) (hws q ▸ hD) hZ hl)
theorem jy_newq (F : jy_F p m c cc nL s args Ts own D cl tys) {index : Nat} {C : String} {cA : ClassId} {n : Int32} {N' : Nat} {ws' : Nat → va_W} {cells' slots' : Nat} (hA : ∀ q, H0.size ≤ q → A q) (t0 : Nat) (ht : tys[t0]? = some (cA, .object C)) (hover : va_AO C s) (hdg : decode cc pc = .ok (.anewarray index, 3)) (hlk : Cond.classLink own index C ∈ Ts) (hn : ¬ n < 0) (hN : n.toNatClampNeg = N') (hbytes : N' * 4 ≤ 536870912) (hcells : cells + 1 = cells') (hslots : slots + N' = slots') (hcr : cells' ≤ R.cells) (hsr : slots' ≤ R.slots) (hws : ∀ q, ws ++ [(q, .inl (cA, N', .inr (.inr (.inr (.inr (fun _ => none))))))] = ws' q) (hp : pc + 3 = pc') (kk : ∀ q : Nat, JJ p l e R s m args below meth c Q nL D cl A (va_S A H0) cells' slots' (ws' q) pc' lv (.ref q :: st)) : JJ p l e R s m args below meth c Q nL D cl A (va_S A H0) cells slots ws pc lv (.int n :: st) := by
  subst hp; subst hcells; subst hslots
  exact fun H locs ls hP hD hZ hl => va_newq F.1.1 F.1.2.1 F.1.2.2.2.1 (F.1.2.2.2.2 _ hlk) hover F.2 hP hD hZ hA hn hN hbytes hcr hsr hdg (fun q cB H1 hK1 hP hD hZ => by
    have e := jy_one (F.2.2 t0 _ ht).2 (hK1.2 tys.length (cB, .object C) (by rw [List.getElem?_append_right (Nat.le_refl _)]; simp)).2
    subst e
    exact kk q H1 locs ls (hws q ▸ hP) (hws q ▸ hD) hZ hl)
theorem jy_objInit (F : jy_F p m c cc nL s args Ts own D cl tys) {a idx : Nat} (hdg : decode cc pc = .ok (.invokespecial idx, 3)) (h1 : Cond.methodLink own idx objectInit ∈ Ts) (h2 : Cond.instanceMethod objectInit ∈ Ts) (h3 : Cond.code objectInit ⟨#[0xb1]⟩ 1 none ∈ Ts) (hfr : 1 ≤ R.frames) (hlo : (st.map fun v => v.category).sum + 12 ≤ R.locals) (hp : pc + 3 = pc') (kk : JJ p l e R s m args below meth c Q nL D cl A Z cells slots ws pc' lv st) : JJ p l e R s m args below meth c Q nL D cl A Z cells slots ws pc lv (.ref a :: st) := by
  subst hp; exact fun H locs ls hP hD hZ hl => W.objInit F.1.1 F.1.2.1 F.1.2.2.2.1 (F.1.2.2.2.2 _ h1) (F.1.2.2.2.2 _ h2) (F.1.2.2.2.2 _ h3) rfl (by rw [F.1.2.2.1]; exact hl.1) rfl hdg hfr (by simpa [JFrame.monitorRoom] using hlo) (kk H locs ls hP hD hZ hl)
/-- a contract's start and its end -/
def jy_P (av : List Value) (D : va_G) (cl : List vw_C) (tys : List (ClassId × FieldType)) (nw : List Cond) (wc : va_W) (sz : Nat) : Array Value → State → Prop :=
  va_Pc av (fun U => U.heap.size = sz ∧ va_P D cl wc U.heap ∧ va_K D cl tys U ∧ va_D (fun _ => True) wc ∧ jy_N nw U)
def jy_B {S : Type} (D : va_G) (cl : List vw_C) (A : Nat → Prop) (w1 : S → va_W) : S → State → Prop := fun u t => va_P D cl (w1 u) t.heap ∧ va_D A (w1 u)
theorem jy_blind {av : List Value} {nw : List Cond} {wc : va_W} {sz : Nat} : FrameBlind (jy_P av D cl tys nw wc sz) := fun a U g mk q => by
  obtain ⟨q0, q1, qP, qK, qD, qN⟩ := q
  exact ⟨q0, q1, qP, va_K.moved (u := U) (U := U.calling g mk a) (Vm.Alike.refl U.vm) qK, qD, jy_N.same (u := U) (U := U.calling g mk a) rfl qN⟩
def jy_Run (p : Program) (l : Launch) (e : Env) (R : Room) (s : State) (m : MethodId) (args : Array Value) (below : List Frame) (meth : Method) (c : Code) (nL : Nat) (D : va_G) (cl : List vw_C) (A : Nat → Prop) (Z : Heap → List Loc → Prop) (cells slots mc ms : Nat) (ws : va_W) (pc : Nat) (lv : List (Nat × Value)) (st0 st : List Value) (a : Array Value) (Qc : Nat → Array Value → State → Outcome → State → Prop) (free : Nat → Nat → Prop) : Prop :=
  ∀ (H : Heap) (locs : List Loc) (ls : Array Slot), va_P D cl ws H → va_D A ws → Z H locs → lv_has ls nL lv → va_Run p l e R s m args below meth c H locs cells slots mc ms (F0 m pc ls st0) st (Qc H.size a) (free H.size)
theorem jy_pre (F : jy_F p m c cc nL s args Ts own D cl tys) {nw : List Cond} {wc : va_W} {H : Heap} {av : List Value} (hN : jy_N nw s) (hP : va_P D cl ws H) (hD : va_D A ws) (isC : List Nat) (hC : isC.map (fun i => ws[i]?) = wc.map some) (hd : va_nd isC = true) : ∀ U : State, U.heap = H → s.WarmedH U.vm → jy_P av D cl tys nw wc H.size av.toArray U := fun U hU hW =>
  ⟨rfl, by rw [hU], by rw [hU]; exact hP.sub isC (jy_fm hC), va_K.moved hW.alike F.2, (hD.sub isC hd hC).weaken (fun _ _ _ _ => trivial), hN.warm hW⟩
theorem jy_runV (F : jy_F p m c cc nL s args Ts own D cl tys) {nw : List Cond} {wc : va_W} {b : Nat} {As st0 : List Value} {y : MethodName} {wsy : List Cond} {rm : Room} {mc ms n index maxL : Nat} {bytes : ByteArray} {ret : Option FieldType} {C : String} {T : u_T} {N q0 ci : Nat} {fs : List Value} {Qc : Nat → Array Value → State → Outcome → State → Prop} {free : Nat → Nat → Prop} (hN : jy_N nw s) (hM : ∀ sz, Met l y wsy rm (jy_P (.ref b :: As) D cl tys nw wc sz) (Qc sz) mc ms (free sz)) (cw : CallW R s args own C index y bytes maxL ret wsy rm mc ms n) (he : ws[q0]? = some (b, .inr (ci, fs))) (hc : cl[ci]? = some (C, T, N)) (isC : List Nat) (hC : isC.map (fun i => ws[i]?) = wc.map some) (hd : va_nd isC = true) (hn : As.length = n) (hst : st0 = As.reverse ++ .ref b :: st) (hroom : (st.map fun v => v.category).sum ≤ 8) (hdg : decode cc pc = .ok (.invokevirtual index, 3)) (hf : cells + mc ≤ R.cells ∧ slots + ms ≤ R.slots) : jy_Run p l e R s m args below meth c nL D cl A Z cells slots mc ms ws pc lv st0 st (.ref b :: As).toArray Qc free := fun H locs ls hP hD hZ hl =>
  va_runV F.1 (hM H.size) cw ⟨jy_blind, va_recv F.2 hP hc he, jy_pre F hN hP hD isC hC hd⟩ rfl hn hl.1 hst (lv_room hroom) hdg hf
theorem jy_runVN (F : jy_F p m c cc nL s args Ts own D cl tys) {nw : List Cond} {wc : va_W} {b : Nat} {As st0 : List Value} {y : MethodName} {wsy : List Cond} {rm : Room} {mc ms n index maxL : Nat} {bytes : ByteArray} {ret : Option FieldType} {C host : String} {T : u_T} {N q0 ci : Nat} {fs : List Value} {Qc : Nat → Array Value → State → Outcome → State → Prop} {free : Nat → Nat → Prop} (hN : jy_N nw s) (hM : ∀ sz, Met l y wsy rm (jy_P (.ref b :: As) D cl tys nw wc sz) (Qc sz) mc ms (free sz)) (cw : va_CN R s args own index y host bytes maxL ret wsy rm mc ms n ∧ (Cond.instanceMethod y).before args s = true ∧ (Cond.selects C y y).before args s = true) (he : ws[q0]? = some (b, .inr (ci, fs))) (hc : cl[ci]? = some (C, T, N)) (isC : List Nat) (hC : isC.map (fun i => ws[i]?) = wc.map some) (hd : va_nd isC = true) (hn : As.length = n) (hst : st0 = As.reverse ++ .ref b :: st) (hroom : (st.map fun v => v.category).sum ≤ 8) (hdg : decode cc pc = .ok (.invokevirtual index, 3)) (hf : cells + mc ≤ R.cells ∧ slots + ms ≤ R.slots) : jy_Run p l e R s m args below meth c nL D cl A Z cells slots mc ms ws pc lv st0 st (.ref b :: As).toArray Qc free := fun H locs ls hP hD hZ hl =>
  va_runVN F.1 (hM H.size) cw ⟨jy_blind, va_recv F.2 hP hc he, jy_pre F hN hP hD isC hC hd⟩ rfl hn hl.1 hst (lv_room hroom) hdg hf
theorem jy_runS (F : jy_F p m c cc nL s args Ts own D cl tys) {nw : List Cond} {wc : va_W} {As st0 : List Value} {y : MethodName} {wsy : List Cond} {rm : Room} {mc ms n index maxL : Nat} {bytes : ByteArray} {ret : Option FieldType} {Qc : Nat → Array Value → State → Outcome → State → Prop} {free : Nat → Nat → Prop} (hN : jy_N nw s) (hM : ∀ sz, Met l y wsy rm (jy_P As D cl tys nw wc sz) (Qc sz) mc ms (free sz)) (cw : CallB R s args own index y bytes maxL ret wsy rm mc ms n ∧ (Cond.static y).before args s = true) (isC : List Nat) (hC : isC.map (fun i => ws[i]?) = wc.map some) (hd : va_nd isC = true) (hn : As.length = n) (hst : st0 = As.reverse ++ st) (hroom : (st.map fun v => v.category).sum ≤ 8) (hdg : decode cc pc = .ok (.invokestatic index, 3)) (hf : cells + mc ≤ R.cells ∧ slots + ms ≤ R.slots) : jy_Run p l e R s m args below meth c nL D cl A Z cells slots mc ms ws pc lv st0 st As.toArray Qc free := fun H locs ls hP hD hZ hl =>
  va_runS F.1 (hM H.size) cw ⟨jy_blind, jy_pre F hN hP hD isC hC hd⟩ rfl hn hl.1 hst (lv_room hroom) hdg hf
theorem jy_runSN (F : jy_F p m c cc nL s args Ts own D cl tys) {nw : List Cond} {wc : va_W} {As st0 : List Value} {y : MethodName} {wsy : List Cond} {rm : Room} {mc ms n index maxL : Nat} {bytes : ByteArray} {ret : Option FieldType} {host : String} {Qc : Nat → Array Value → State → Outcome → State → Prop} {free : Nat → Nat → Prop} (hN : jy_N nw s) (hM : ∀ sz, Met l y wsy rm (jy_P As D cl tys nw wc sz) (Qc sz) mc ms (free sz)) (cw : va_CN R s args own index y host bytes maxL ret wsy rm mc ms n ∧ (Cond.static y).before args s = true ∧ True) (isC : List Nat) (hC : isC.map (fun i => ws[i]?) = wc.map some) (hd : va_nd isC = true) (hn : As.length = n) (hst : st0 = As.reverse ++ st) (hroom : (st.map fun v => v.category).sum ≤ 8) (hdg : decode cc pc = .ok (.invokestatic index, 3)) (hf : cells + mc ≤ R.cells ∧ slots + ms ≤ R.slots) : jy_Run p l e R s m args below meth c nL D cl A Z cells slots mc ms ws pc lv st0 st As.toArray Qc free := fun H locs ls hP hD hZ hl =>
  va_runSN F.1 (hM H.size) cw ⟨jy_blind, jy_pre F hN hP hD isC hC hd⟩ rfl hn hl.1 hst (lv_room hroom) hdg hf
theorem jy_runI (F : jy_F p m c cc nL s args Ts own D cl tys) {nw : List Cond} {wc : va_W} {b : Nat} {As st0 : List Value} {y : MethodName} {wsy : List Cond} {rm : Room} {mc ms n index maxL : Nat} {bytes : ByteArray} {Qc : Nat → Array Value → State → Outcome → State → Prop} {free : Nat → Nat → Prop} (hN : jy_N nw s) (hM : ∀ sz, Met l y wsy rm (jy_P (.ref b :: As) D cl tys nw wc sz) (Qc sz) mc ms (free sz)) (cw : CallB R s args own index y bytes maxL none wsy rm mc ms n ∧ y.name = "<init>" ∧ (Cond.instanceMethod y).before args s = true) (isC : List Nat) (hC : isC.map (fun i => ws[i]?) = wc.map some) (hd : va_nd isC = true) (hn : As.length = n) (hst : st0 = As.reverse ++ .ref b :: st) (hroom : (st.map fun v => v.category).sum ≤ 8) (hdg : decode cc pc = .ok (.invokespecial index, 3)) (hf : cells + mc ≤ R.cells ∧ slots + ms ≤ R.slots) : jy_Run p l e R s m args below meth c nL D cl A Z cells slots mc ms ws pc lv st0 st (.ref b :: As).toArray Qc free := fun H locs ls hP hD hZ hl =>
  va_runI F.1 (hM H.size) cw ⟨jy_blind, jy_pre F hN hP hD isC hC hd⟩ rfl hn hl.1 hst (lv_room hroom) hdg hf
theorem jy_runIN (F : jy_F p m c cc nL s args Ts own D cl tys) {nw : List Cond} {wc : va_W} {b : Nat} {As st0 : List Value} {y : MethodName} {wsy : List Cond} {rm : Room} {mc ms n index maxL : Nat} {bytes : ByteArray} {host : String} {Qc : Nat → Array Value → State → Outcome → State → Prop} {free : Nat → Nat → Prop} (hN : jy_N nw s) (hM : ∀ sz, Met l y wsy rm (jy_P (.ref b :: As) D cl tys nw wc sz) (Qc sz) mc ms (free sz)) (cw : va_CN R s args own index y host bytes maxL none wsy rm mc ms n ∧ y.name = "<init>" ∧ (Cond.instanceMethod y).before args s = true) (isC : List Nat) (hC : isC.map (fun i => ws[i]?) = wc.map some) (hd : va_nd isC = true) (hn : As.length = n) (hst : st0 = As.reverse ++ .ref b :: st) (hroom : (st.map fun v => v.category).sum ≤ 8) (hdg : decode cc pc = .ok (.invokespecial index, 3)) (hf : cells + mc ≤ R.cells ∧ slots + ms ≤ R.slots) : jy_Run p l e R s m args below meth c nL D cl A Z cells slots mc ms ws pc lv st0 st (.ref b :: As).toArray Qc free := fun H locs ls hP hD hZ hl =>
  va_runIN F.1 (hM H.size) cw ⟨jy_blind, jy_pre F hN hP hD isC hC hd⟩ rfl hn hl.1 hst (lv_room hroom) hdg hf
theorem jy_cI (F : jy_F p m c cc nL s args Ts own D cl tys) {y : MethodName} {wsy wsr : List Cond} {rm : Room} {index maxL mc ms n : Nat} {bytes : ByteArray} (hG : GoodIn Ts wsy) (hw : wsy = Cond.code y bytes maxL none :: wsr) (hd : y.cls ≠ "java/lang/invoke/MethodHandle" ∧ y.cls ≠ "java/lang/invoke/VarHandle" ∧ (parseMethodDescriptor y.desc).map (fun d => d.parameters.length) = some n) (h1 : Cond.initialized y.cls ∈ Ts) (h2 : Cond.methodLink own index y ∈ Ts) (h3 : Cond.instanceMethod y ∈ Ts) (hy : y.name = "<init>") (hrc : rm.cells = mc) (hrs : rm.slots = ms) (hR : rm.frames + 1 ≤ R.frames ∧ 8 + (maxL + 11) + rm.locals ≤ R.locals) : CallB R s args own index y bytes maxL none wsy rm mc ms n ∧ y.name = "<init>" ∧ (Cond.instanceMethod y).before args s = true :=
  cwI n F.1.2.2.2.2 hG hw hrc hrs (F.1.2.2.2.2 _ h1) (F.1.2.2.2.2 _ h2) (F.1.2.2.2.2 _ h3) hy hd hR
theorem jy_cIN (F : jy_F p m c cc nL s args Ts own D cl tys) {y : MethodName} {wsy wsr : List Cond} {rm : Room} {index maxL mc ms n : Nat} {bytes : ByteArray} {host : String} (hG : GoodIn Ts wsy) (hw : wsy = Cond.code y bytes maxL none :: wsr) (hd : y.cls ≠ "java/lang/invoke/MethodHandle" ∧ y.cls ≠ "java/lang/invoke/VarHandle" ∧ (parseMethodDescriptor y.desc).map (fun d => d.parameters.length) = some n) (h1 : Cond.initialized y.cls ∈ Ts) (h2 : va_Nw (.methodLinkNest own index y host) s) (h3 : Cond.instanceMethod y ∈ Ts) (hy : y.name = "<init>") (hrc : rm.cells = mc) (hrs : rm.slots = ms) (hR : rm.frames + 1 ≤ R.frames ∧ 8 + (maxL + 11) + rm.locals ≤ R.locals) : va_CN R s args own index y host bytes maxL none wsy rm mc ms n ∧ y.name = "<init>" ∧ (Cond.instanceMethod y).before args s = true :=
  ⟨va_cnB n F.1.2.2.2.2 hG hw hrc hrs h2 (F.1.2.2.2.2 _ h1) hd hR, hy, F.1.2.2.2.2 _ h3⟩
theorem jy_cV (F : jy_F p m c cc nL s args Ts own D cl tys) {y : MethodName} {wsy wsr : List Cond} {rm : Room} {index maxL mc ms n : Nat} {bytes : ByteArray} {ret : Option FieldType} (hG : GoodIn Ts wsy) (hw : wsy = Cond.code y bytes maxL ret :: wsr) (hd : y.cls ≠ "java/lang/invoke/MethodHandle" ∧ y.cls ≠ "java/lang/invoke/VarHandle" ∧ (parseMethodDescriptor y.desc).map (fun d => d.parameters.length) = some n) (h1 : Cond.initialized y.cls ∈ Ts) (h2 : Cond.methodLink own index y ∈ Ts) (h3 : Cond.instanceMethod y ∈ Ts) (h4 : Cond.selects y.cls y y ∈ Ts) (hrc : rm.cells = mc) (hrs : rm.slots = ms) (hR : rm.frames + 1 ≤ R.frames ∧ 8 + (maxL + 11) + rm.locals ≤ R.locals) : CallW R s args own y.cls index y bytes maxL ret wsy rm mc ms n :=
  ⟨callB_of n F.1.2.2.2.2 hG hw hrc hrs (F.1.2.2.2.2 _ h1) (F.1.2.2.2.2 _ h2) hd hR, F.1.2.2.2.2 _ h3, F.1.2.2.2.2 _ h4⟩
theorem jy_cS (F : jy_F p m c cc nL s args Ts own D cl tys) {y : MethodName} {wsy wsr : List Cond} {rm : Room} {index maxL mc ms n : Nat} {bytes : ByteArray} {ret : Option FieldType} (hG : GoodIn Ts wsy) (hw : wsy = Cond.code y bytes maxL ret :: wsr) (hd : y.cls ≠ "java/lang/invoke/MethodHandle" ∧ y.cls ≠ "java/lang/invoke/VarHandle" ∧ (parseMethodDescriptor y.desc).map (fun d => d.parameters.length) = some n) (h1 : Cond.initialized y.cls ∈ Ts) (h2 : Cond.methodLink own index y ∈ Ts) (h3 : Cond.static y ∈ Ts) (hrc : rm.cells = mc) (hrs : rm.slots = ms) (hR : rm.frames + 1 ≤ R.frames ∧ 8 + (maxL + 11) + rm.locals ≤ R.locals) : CallB R s args own index y bytes maxL ret wsy rm mc ms n ∧ (Cond.static y).before args s = true :=
  ⟨callB_of n F.1.2.2.2.2 hG hw hrc hrs (F.1.2.2.2.2 _ h1) (F.1.2.2.2.2 _ h2) hd hR, F.1.2.2.2.2 _ h3⟩
theorem jy_cSN (F : jy_F p m c cc nL s args Ts own D cl tys) {y : MethodName} {wsy wsr : List Cond} {rm : Room} {index maxL mc ms n : Nat} {bytes : ByteArray} {ret : Option FieldType} {host : String} (hG : GoodIn Ts wsy) (hw : wsy = Cond.code y bytes maxL ret :: wsr) (hd : y.cls ≠ "java/lang/invoke/MethodHandle" ∧ y.cls ≠ "java/lang/invoke/VarHandle" ∧ (parseMethodDescriptor y.desc).map (fun d => d.parameters.length) = some n) (h1 : Cond.initialized y.cls ∈ Ts) (h2 : va_Nw (.methodLinkNest own index y host) s) (h3 : Cond.static y ∈ Ts) (hrc : rm.cells = mc) (hrs : rm.slots = ms) (hR : rm.frames + 1 ≤ R.frames ∧ 8 + (maxL + 11) + rm.locals ≤ R.locals) : va_CN R s args own index y host bytes maxL ret wsy rm mc ms n ∧ (Cond.static y).before args s = true ∧ True :=
  ⟨va_cnB n F.1.2.2.2.2 hG hw hrc hrs h2 (F.1.2.2.2.2 _ h1) hd hR, F.1.2.2.2.2 _ h3, trivial⟩
theorem jy_calli {S : Type} {post : Int32 → S → Prop} {w1 : S → va_W} {wc wr : va_W} {a : Array Value} {st0 : List Value} {mc ms cells' slots' : Nat} (hA : ∀ q, H0.size ≤ q → A q) (isC isR : List Nat) (hC : isC.map (fun i => ws[i]?) = wc.map some) (hR : isR.map (fun i => ws[i]?) = wr.map some) (hn : va_nd isR = true) (hdis : ∀ i ∈ isR, i ∉ isC) (hrun : jy_Run p l e R s m args below meth c nL D cl A (va_S A H0) cells slots mc ms ws pc lv st0 st a (fun sz => va_Qi post (jy_B D cl (va_A wc sz) w1) (va_A wc sz)) (fun sz => va_A wc sz)) (hp : pc + 3 = pc') (hcells : cells + mc = cells') (hslots : slots + ms = slots') (kk : ∀ (r : Int32) (u : S), post r u → JJ p l e R s m args below meth c Q nL D cl A (va_S A H0) cells' slots' (wr ++ w1 u) pc' lv (.int r :: st)) : JJ p l e R s m args below meth c Q nL D cl A (va_S A H0) cells slots ws pc lv st0 := by
  subst hp; subst hcells; subst hslots
  exact fun H locs ls hP hD hZ hl => va_calli (hrun H locs ls hP hD hZ hl) hZ (fun q _ h => va_free hD hZ hA isC hC q h) (va_free hD hZ hA isC hC) (fun r u t H1 locs1 ht hvm hpost hB hz hk hS1 => by
    obtain ⟨b1, b2⟩ := hB
    rw [ht] at b1
    obtain ⟨j1, j2⟩ := va_join hP hD isC isR hC hR hn hdis hk (va_free hD hZ hA isC hC) b1 b2
    exact kk r u hpost H1 locs1 ls j1 j2 hS1 hl)
theorem jy_calll {S : Type} {post : Int64 → S → Prop} {w1 : S → va_W} {wc wr : va_W} {a : Array Value} {st0 : List Value} {mc ms cells' slots' : Nat} (hA : ∀ q, H0.size ≤ q → A q) (isC isR : List Nat) (hC : isC.map (fun i => ws[i]?) = wc.map some) (hR : isR.map (fun i => ws[i]?) = wr.map some) (hn : va_nd isR = true) (hdis : ∀ i ∈ isR, i ∉ isC) (hrun : jy_Run p l e R s m args below meth c nL D cl A (va_S A H0) cells slots mc ms ws pc lv st0 st a (fun sz => va_Ql post (jy_B D cl (va_A wc sz) w1) (va_A wc sz)) (fun sz => va_A wc sz)) (hp : pc + 3 = pc') (hcells : cells + mc = cells') (hslots : slots + ms = slots') (kk : ∀ (r : Int64) (u : S), post r u → JJ p l e R s m args below meth c Q nL D cl A (va_S A H0) cells' slots' (wr ++ w1 u) pc' lv (.long r :: st)) : JJ p l e R s m args below meth c Q nL D cl A (va_S A H0) cells slots ws pc lv st0 := by
  subst hp; subst hcells; subst hslots
  exact fun H locs ls hP hD hZ hl => va_calll (hrun H locs ls hP hD hZ hl) hZ (fun q _ h => va_free hD hZ hA isC hC q h) (va_free hD hZ hA isC hC) (fun r u t H1 locs1 ht hvm hpost hB hz hk hS1 => by
    obtain ⟨b1, b2⟩ := hB
    rw [ht] at b1
    obtain ⟨j1, j2⟩ := va_join hP hD isC isR hC hR hn hdis hk (va_free hD hZ hA isC hC) b1 b2
    exact kk r u hpost H1 locs1 ls j1 j2 hS1 hl)
theorem jy_callv {S : Type} {post : S → Prop} {w1 : S → va_W} {wc wr : va_W} {a : Array Value} {st0 : List Value} {mc ms cells' slots' : Nat} (hA : ∀ q, H0.size ≤ q → A q) (isC isR : List Nat) (hC : isC.map (fun i => ws[i]?) = wc.map some) (hR : isR.map (fun i => ws[i]?) = wr.map some) (hn : va_nd isR = true) (hdis : ∀ i ∈ isR, i ∉ isC) (hrun : jy_Run p l e R s m args below meth c nL D cl A (va_S A H0) cells slots mc ms ws pc lv st0 st a (fun sz => va_Qv post (jy_B D cl (va_A wc sz) w1) (va_A wc sz)) (fun sz => va_A wc sz)) (hp : pc + 3 = pc') (hcells : cells + mc = cells') (hslots : slots + ms = slots') (kk : ∀ (u : S), post u → JJ p l e R s m args below meth c Q nL D cl A (va_S A H0) cells' slots' (wr ++ w1 u) pc' lv (st)) : JJ p l e R s m args below meth c Q nL D cl A (va_S A H0) cells slots ws pc lv st0 := by
  subst hp; subst hcells; subst hslots
  exact fun H locs ls hP hD hZ hl => va_callv (hrun H locs ls hP hD hZ hl) hZ (fun q _ h => va_free hD hZ hA isC hC q h) (va_free hD hZ hA isC hC) (fun u t H1 locs1 ht hvm hpost hB hz hk hS1 => by
    obtain ⟨b1, b2⟩ := hB
    rw [ht] at b1
    obtain ⟨j1, j2⟩ := va_join hP hD isC isR hC hR hn hdis hk (va_free hD hZ hA isC hC) b1 b2
    exact kk u hpost H1 locs1 ls j1 j2 hS1 hl)
theorem jy_callSi {post : Int32 → Prop} {a : Array Value} {st0 : List Value} (hrun : jy_Run p l e R s m args below meth c nL D cl A Z cells slots 0 0 ws pc lv st0 st a (fun _ => vp_Si post) (fun _ _ => False)) (hp : pc + 3 = pc') (kk : ∀ r : Int32, post r → JJ p l e R s m args below meth c Q nL D cl A Z cells slots ws pc' lv (.int r :: st)) : JJ p l e R s m args below meth c Q nL D cl A Z cells slots ws pc lv st0 := by
  subst hp
  exact fun H locs ls hP hD hZ hl => vp_callSi (hrun H locs ls hP hD hZ hl).run (fun r h => kk r h H locs ls hP hD hZ hl)
theorem jy_callSl {post : Int64 → Prop} {a : Array Value} {st0 : List Value} (hrun : jy_Run p l e R s m args below meth c nL D cl A Z cells slots 0 0 ws pc lv st0 st a (fun _ => vp_Sl post) (fun _ _ => False)) (hp : pc + 3 = pc') (kk : ∀ r : Int64, post r → JJ p l e R s m args below meth c Q nL D cl A Z cells slots ws pc' lv (.long r :: st)) : JJ p l e R s m args below meth c Q nL D cl A Z cells slots ws pc lv st0 := by
  subst hp
  exact fun H locs ls hP hD hZ hl => vp_callSl (hrun H locs ls hP hD hZ hl).run (fun r h => kk r h H locs ls hP hD hZ hl)
theorem jy_iret (F : jy_F p m c cc nL s args Ts own D cl tys) {S : Type} {post : Int32 → S → Prop} {w1 : S → va_W} {v : Int32} (hr : meth.sig.returnType = some .int) (hlocks : meth.locks = false) (u : S) (hpost : post v u) (is : List Nat) (hs : is.map (fun i => ws[i]?) = (w1 u).map some) (hd : va_nd is = true) (hdg : decode cc pc = .ok (.ireturn, 1)) : JJ p l e R s m args below meth c (MQ below (va_Qi post (jy_B D cl A w1) A) args s cells slots A) nL D cl A (va_S A s.heap) cells slots ws pc lv [.int v] :=
  fun H locs ls hP hD hZ hl => W.iret (v := v) F.1.1 F.1.2.1 hr (fun t ht hW => ⟨⟨v, u, rfl, hpost, by rw [ht]; exact hP.sub is (jy_fm hs), hD.sub is hd hs⟩, hZ.F ht⟩) hZ.2.2 hdg hlocks
theorem jy_iretS (F : jy_F p m c cc nL s args Ts own D cl tys) {post : Int32 → Prop} {v : Int32} (hr : meth.sig.returnType = some .int) (hlocks : meth.locks = false) (hpost : post v) (hdg : decode cc pc = .ok (.ireturn, 1)) : JJ p l e R s m args below meth c (MQ below (vp_Si post) args s cells slots (fun _ => False)) nL D cl A (fun H locs => H = s.heap ∧ locs = []) cells slots ws pc lv [.int v] :=
  fun H locs ls hP hD hZ hl => W.iret (v := v) F.1.1 F.1.2.1 hr (fun t ht hW => ⟨v, rfl, hpost, ht.trans hZ.1⟩) (fun q hq => by rw [hZ.2] at hq; cases hq) hdg hlocks
theorem jy_lret (F : jy_F p m c cc nL s args Ts own D cl tys) {S : Type} {post : Int64 → S → Prop} {w1 : S → va_W} {v : Int64} (hr : meth.sig.returnType = some .long) (hlocks : meth.locks = false) (u : S) (hpost : post v u) (is : List Nat) (hs : is.map (fun i => ws[i]?) = (w1 u).map some) (hd : va_nd is = true) (hdg : decode cc pc = .ok (.lreturn, 1)) : JJ p l e R s m args below meth c (MQ below (va_Ql post (jy_B D cl A w1) A) args s cells slots A) nL D cl A (va_S A s.heap) cells slots ws pc lv [.long v] :=
  fun H locs ls hP hD hZ hl => W.lret (v := v) F.1.1 F.1.2.1 hr (fun t ht hW => ⟨⟨v, u, rfl, hpost, by rw [ht]; exact hP.sub is (jy_fm hs), hD.sub is hd hs⟩, hZ.F ht⟩) hZ.2.2 hdg hlocks
theorem jy_lretS (F : jy_F p m c cc nL s args Ts own D cl tys) {post : Int64 → Prop} {v : Int64} (hr : meth.sig.returnType = some .long) (hlocks : meth.locks = false) (hpost : post v) (hdg : decode cc pc = .ok (.lreturn, 1)) : JJ p l e R s m args below meth c (MQ below (vp_Sl post) args s cells slots (fun _ => False)) nL D cl A (fun H locs => H = s.heap ∧ locs = []) cells slots ws pc lv [.long v] :=
  fun H locs ls hP hD hZ hl => W.lret (v := v) F.1.1 F.1.2.1 hr (fun t ht hW => ⟨v, rfl, hpost, ht.trans hZ.1⟩) (fun q hq => by rw [hZ.2] at hq; cases hq) hdg hlocks
theorem jy_zret (F : jy_F p m c cc nL s args Ts own D cl tys) {S : Type} {post : Int32 → S → Prop} {w1 : S → va_W} {v : Int32} (hr : meth.sig.returnType = some .boolean) (hlocks : meth.locks = false) (hv : narrow .boolean (.int v) = .int v) (u : S) (hpost : post v u) (is : List Nat) (hs : is.map (fun i => ws[i]?) = (w1 u).map some) (hd : va_nd is = true) (hdg : decode cc pc = .ok (.ireturn, 1)) : JJ p l e R s m args below meth c (MQ below (va_Qi post (jy_B D cl A w1) A) args s cells slots A) nL D cl A (va_S A s.heap) cells slots ws pc lv [.int v] :=
  fun H locs ls hP hD hZ hl => W.zret (v := v) F.1.1 F.1.2.1 hr hv (fun t ht hW => ⟨⟨v, u, rfl, hpost, by rw [ht]; exact hP.sub is (jy_fm hs), hD.sub is hd hs⟩, hZ.F ht⟩) hZ.2.2 hdg hlocks
theorem jy_zretS (F : jy_F p m c cc nL s args Ts own D cl tys) {post : Int32 → Prop} {v : Int32} (hr : meth.sig.returnType = some .boolean) (hlocks : meth.locks = false) (hv : narrow .boolean (.int v) = .int v) (hpost : post v) (hdg : decode cc pc = .ok (.ireturn, 1)) : JJ p l e R s m args below meth c (MQ below (vp_Si post) args s cells slots (fun _ => False)) nL D cl A (fun H locs => H = s.heap ∧ locs = []) cells slots ws pc lv [.int v] :=
  fun H locs ls hP hD hZ hl => W.zret (v := v) F.1.1 F.1.2.1 hr hv (fun t ht hW => ⟨v, rfl, hpost, ht.trans hZ.1⟩) (fun q hq => by rw [hZ.2] at hq; cases hq) hdg hlocks
theorem jy_vret (F : jy_F p m c cc nL s args Ts own D cl tys) {S : Type} {post : S → Prop} {w1 : S → va_W} (hr : meth.sig.returnType = none) (hlocks : meth.locks = false) (u : S) (hpost : post u) (is : List Nat) (hs : is.map (fun i => ws[i]?) = (w1 u).map some) (hd : va_nd is = true) (hdg : decode cc pc = .ok (.return_, 1)) : JJ p l e R s m args below meth c (MQ below (va_Qv post (jy_B D cl A w1) A) args s cells slots A) nL D cl A (va_S A s.heap) cells slots ws pc lv [] :=
  fun H locs ls hP hD hZ hl => W.vret F.1.1 F.1.2.1 hr (fun t ht hW => ⟨⟨u, rfl, hpost, by rw [ht]; exact hP.sub is (jy_fm hs), hD.sub is hd hs⟩, hZ.F ht⟩) hZ.2.2 hdg hlocks
/-- a contract out of a walk -/
theorem jy_met {y : MethodName} {wsy ws' : List Cond} {rm : Room} {nw : List Cond} {wc : va_W} {sz mc ms maxL : Nat} {ret : Option FieldType} {av : List Value} {lv : List (Nat × Value)} {Qc : Array Value → State → Outcome → State → Prop} (hy : plainName y.cls = true) (hw : wsy = Cond.code y cc maxL ret :: ws') (hlen : (lg_sl av).length ≤ maxL) (hlv : lv_args 0 av = lv)
    (body : ∀ (p : Program) (e : Env) (s : State) (m : MethodId) (below : List Frame) (meth : Method) (c : Code), jy_F p m c cc maxL s av.toArray wsy y.cls D cl tys → meth.sig.returnType = ret → meth.locks = false → meth.name = y.name → jy_N nw s → (∀ q, s.heap.size ≤ q → va_A wc sz q) → JJ p l e rm s m av.toArray below meth c (MQ below Qc av.toArray s mc ms (va_A wc sz)) maxL D cl (va_A wc sz) (va_S (va_A wc sz) s.heap) 0 0 wc 0 lv []) : Met l y wsy rm (jy_P av D cl tys nw wc sz) Qc mc ms (va_A wc sz) := by
  refine Met.ofW (cc := cc) (maxL := maxL) (ret := ret) hy hw ?_
  intro p e s m args below meth c s₁ B hml hv
  obtain ⟨rfl, hsz, hP, hK, hD0, hN⟩ := hv
  have hl := lv_entry av (n := maxL) hlen
  rw [lg_entry_eq]
  rw [hlv] at hl
  exact body p e s m below meth c ⟨⟨B.exec, B.bytes, hml, findClass_of_methodNamed B.named, atoms_spec (ws := wsy) B.pre⟩, hK⟩ B.returns B.notSynchronized (name_of_methodNamed B.named B.method).1 hN (fun q h => Or.inr (by rw [← hsz]; exact h)) s.heap [] _ hP hD0.self va_S.rf hl
/-- a contract of a method that changes nothing -/
theorem jy_metS {y : MethodName} {wsy ws' : List Cond} {rm : Room} {nw : List Cond} {wc : va_W} {sz maxL : Nat} {ret : Option FieldType} {av : List Value} {lv : List (Nat × Value)} {Qc : Array Value → State → Outcome → State → Prop} (hy : plainName y.cls = true) (hw : wsy = Cond.code y cc maxL ret :: ws') (hlen : (lg_sl av).length ≤ maxL) (hlv : lv_args 0 av = lv)
    (body : ∀ (p : Program) (e : Env) (s : State) (m : MethodId) (below : List Frame) (meth : Method) (c : Code), jy_F p m c cc maxL s av.toArray wsy y.cls D cl tys → meth.sig.returnType = ret → meth.locks = false → jy_N nw s → JJ p l e rm s m av.toArray below meth c (MQ below Qc av.toArray s 0 0 (fun _ => False)) maxL D cl (fun _ => True) (fun H locs => H = s.heap ∧ locs = []) 0 0 wc 0 lv []) : Met l y wsy rm (jy_P av D cl tys nw wc sz) Qc 0 0 (fun _ => False) := by
  refine Met.ofW (cc := cc) (maxL := maxL) (ret := ret) hy hw ?_
  intro p e s m args below meth c s₁ B hml hv
  obtain ⟨rfl, hsz, hP, hK, hD0, hN⟩ := hv
  have hl := lv_entry av (n := maxL) hlen
  rw [lg_entry_eq]
  rw [hlv] at hl
  exact body p e s m below meth c ⟨⟨B.exec, B.bytes, hml, findClass_of_methodNamed B.named, atoms_spec (ws := wsy) B.pre⟩, hK⟩ B.returns B.notSynchronized hN s.heap [] _ hP hD0 ⟨rfl, rfl⟩ hl

end JY
end
section
theorem goodIn_sub {big ws : List Cond} (hm : ∀ w ∈ ws, w ∈ big) (h : ws.all goodWord = true) : GoodIn big ws := fun w hw => ⟨hm w hw, good_of_word (List.all_eq_true.mp h w hw)⟩
theorem goodIn_ca {big a b : List Cond} {c : Cond} (ha : GoodIn big (c :: a)) (hb : GoodIn big b) : GoodIn big (c :: (a ++ b)) := fun w h => (List.mem_cons.mp h).elim (fun e => ha w (List.mem_cons.mpr (Or.inl e))) (fun h => (List.mem_append.mp h).elim (fun h => ha w (List.mem_cons.mpr (Or.inr h))) (hb w))
theorem goodIn_app {big a b : List Cond} (ha : GoodIn big a) (hb : GoodIn big b) : GoodIn big (a ++ b) := fun w h => (List.mem_append.mp h).elim (ha w) (hb w)
theorem goodIn_r {big : List Cond} (ws : List Cond) (ps : List Nat) (hp : ws = ps.filterMap (fun i => big[i]?)) (h : ws.all goodWord = true) : GoodIn big ws := by
  intro w hw
  have h1 := List.all_eq_true.mp h w hw
  rw [hp] at hw
  obtain ⟨i, -, hi⟩ := List.mem_filterMap.mp hw
  have hm : w ∈ big := by first | exact List.mem_of_getElem? hi | exact List.getElem?_mem hi
  exact ⟨hm, good_of_word h1⟩
def RX0 : String := "NestedChecker$Automaton"
def TX0 : u_T := fun k => match k with
  | 0 => ("NestedChecker$Automaton", "states", "I", false)
  | 1 => ("NestedChecker$Automaton", "symbols", "I", false)
  | 2 => ("NestedChecker$Automaton", "starts", "I", false)
  | 3 => ("NestedChecker$Automaton", "accepts", "I", false)
  | 4 => ("NestedChecker$Automaton", "rules", "I", false)
  | 5 => ("NestedChecker$Automaton", "calls", "I", false)
  | 6 => ("NestedChecker$Automaton", "letter", "[I", true)
  | 7 => ("NestedChecker$Automaton", "from", "[I", true)
  | 8 => ("NestedChecker$Automaton", "to", "[I", true)
  | 9 => ("NestedChecker$Automaton", "symbol", "[I", true)
  | 10 => ("NestedChecker$Automaton", "step", "[I", true)
  | _ => ("NestedChecker$Automaton", "stacked", "[I", true)
def tyX0 : Nat → FieldType := fun k => match k with
  | 0 => .int
  | 1 => .int
  | 2 => .int
  | 3 => .int
  | 4 => .int
  | 5 => .int
  | 6 => .array .int
  | 7 => .array .int
  | 8 => .array .int
  | 9 => .array .int
  | 10 => .array .int
  | _ => .array .int
abbrev wsX00 : List Cond := u_ws RX0 TX0 12
theorem nmX0 : ∀ a, a < 12 → ∀ b, b < 12 → a ≠ b → (TX0 a).2.1 ≠ (TX0 b).2.1 := by decide +kernel
theorem tyX0_ok : ∀ k, k < 12 → parseFieldDescriptor (TX0 k).2.2.1 = some (tyX0 k) := by decide +kernel
def RX1 : String := "NestedChecker$Reader"
def TX1 : u_T := fun k => match k with
  | 0 => ("NestedChecker$Reader", "made", "LNestedChecker$Setting;", false)
  | 1 => ("NestedChecker$Reader", "taped", "I", false)
  | 2 => ("NestedChecker$Reader", "faultKind", "I", false)
  | 3 => ("NestedChecker$Reader", "faultPlace", "I", false)
  | 4 => ("NestedChecker$Reader", "tape", "[B", true)
  | 5 => ("NestedChecker$Reader", "length", "I", false)
  | 6 => ("NestedChecker$Reader", "kind", "I", false)
  | 7 => ("NestedChecker$Reader", "place", "I", false)
  | 8 => ("NestedChecker$Reader", "size", "I", false)
  | 9 => ("NestedChecker$Reader", "value", "I", false)
  | 10 => ("NestedChecker$Reader", "namePlace", "[I", true)
  | _ => ("NestedChecker$Reader", "nameSize", "[I", true)
def tyX1 : Nat → FieldType := fun k => match k with
  | 0 => .object "NestedChecker$Setting"
  | 1 => .int
  | 2 => .int
  | 3 => .int
  | 4 => .array .byte
  | 5 => .int
  | 6 => .int
  | 7 => .int
  | 8 => .int
  | 9 => .int
  | 10 => .array .int
  | _ => .array .int
abbrev wsX10 : List Cond := u_ws RX1 TX1 12
theorem nmX1 : ∀ a, a < 12 → ∀ b, b < 12 → a ≠ b → (TX1 a).2.1 ≠ (TX1 b).2.1 := by decide +kernel
theorem tyX1_ok : ∀ k, k < 12 → parseFieldDescriptor (TX1 k).2.2.1 = some (tyX1 k) := by decide +kernel
def RX2 : String := "NestedChecker$Relations"
def TX2 : u_T := fun k => match k with
  | _ => ("", "", "", false)
def tyX2 : Nat → FieldType := fun k => match k with
  | _ => .int
abbrev wsX20 : List Cond := u_ws RX2 TX2 0
theorem nmX2 : ∀ a, a < 0 → ∀ b, b < 0 → a ≠ b → (TX2 a).2.1 ≠ (TX2 b).2.1 := by decide +kernel
theorem tyX2_ok : ∀ k, k < 0 → parseFieldDescriptor (TX2 k).2.2.1 = some (tyX2 k) := by decide +kernel
def RX3 : String := "NestedChecker$RunCount"
def TX3 : u_T := fun k => match k with
  | 0 => ("NestedChecker$RunCount", "pending", "I", false)
  | 1 => ("NestedChecker$RunCount", "now", "[J", true)
  | 2 => ("NestedChecker$RunCount", "scratch", "[J", true)
  | 3 => ("NestedChecker$RunCount", "below", "[J", true)
  | 4 => ("NestedChecker$RunCount", "belowCall", "[I", true)
  | 5 => ("NestedChecker$RunCount", "ends", "[J", false)
  | _ => ("NestedChecker$RunCount", "more", "[J", false)
def tyX3 : Nat → FieldType := fun k => match k with
  | 0 => .int
  | 1 => .array .long
  | 2 => .array .long
  | 3 => .array .long
  | 4 => .array .int
  | 5 => .array .long
  | _ => .array .long
abbrev wsX30 : List Cond := u_ws RX3 TX3 7
theorem nmX3 : ∀ a, a < 7 → ∀ b, b < 7 → a ≠ b → (TX3 a).2.1 ≠ (TX3 b).2.1 := by decide +kernel
theorem tyX3_ok : ∀ k, k < 7 → parseFieldDescriptor (TX3 k).2.2.1 = some (tyX3 k) := by decide +kernel
def RX4 : String := "NestedChecker$Search"
def TX4 : u_T := fun k => match k with
  | 0 => ("NestedChecker$Search", "foundLength", "[I", true)
  | 1 => ("NestedChecker$Search", "foundCode", "[I", true)
  | 2 => ("NestedChecker$Search", "foundSlots", "I", false)
  | 3 => ("NestedChecker$Search", "calls", "I", false)
  | 4 => ("NestedChecker$Search", "paired", "I", false)
  | 5 => ("NestedChecker$Search", "letters", "I", false)
  | 6 => ("NestedChecker$Search", "all", "LNestedChecker$Automaton;", true)
  | 7 => ("NestedChecker$Search", "left", "LNestedChecker$Automaton;", false)
  | 8 => ("NestedChecker$Search", "right", "LNestedChecker$Automaton;", false)
  | 9 => ("NestedChecker$Search", "whole", "Z", false)
  | 10 => ("NestedChecker$Search", "words", "LNestedChecker$Shelf;", true)
  | 11 => ("NestedChecker$Search", "blocks", "LNestedChecker$Shelf;", true)
  | 12 => ("NestedChecker$Search", "nodes", "LNestedChecker$Shelf;", true)
  | 13 => ("NestedChecker$Search", "relations", "I", false)
  | 14 => ("NestedChecker$Search", "relation", "[I", true)
  | 15 => ("NestedChecker$Search", "number", "[I", true)
  | _ => ("NestedChecker$Search", "powers", "[I", true)
def tyX4 : Nat → FieldType := fun k => match k with
  | 0 => .array .int
  | 1 => .array .int
  | 2 => .int
  | 3 => .int
  | 4 => .int
  | 5 => .int
  | 6 => .object "NestedChecker$Automaton"
  | 7 => .object "NestedChecker$Automaton"
  | 8 => .object "NestedChecker$Automaton"
  | 9 => .boolean
  | 10 => .object "NestedChecker$Shelf"
  | 11 => .object "NestedChecker$Shelf"
  | 12 => .object "NestedChecker$Shelf"
  | 13 => .int
  | 14 => .array .int
  | 15 => .array .int
  | _ => .array .int
abbrev wsX40 : List Cond := u_ws RX4 TX4 17
theorem nmX4 : ∀ a, a < 17 → ∀ b, b < 17 → a ≠ b → (TX4 a).2.1 ≠ (TX4 b).2.1 := by decide +kernel
theorem tyX4_ok : ∀ k, k < 17 → parseFieldDescriptor (TX4 k).2.2.1 = some (tyX4 k) := by decide +kernel
def RX5 : String := "NestedChecker$Setting"
def TX5 : u_T := fun k => match k with
  | 0 => ("NestedChecker$Setting", "calls", "I", false)
  | 1 => ("NestedChecker$Setting", "paired", "I", false)
  | 2 => ("NestedChecker$Setting", "letters", "I", false)
  | 3 => ("NestedChecker$Setting", "automata", "I", false)
  | 4 => ("NestedChecker$Setting", "first", "LNestedChecker$Automaton;", true)
  | 5 => ("NestedChecker$Setting", "second", "LNestedChecker$Automaton;", true)
  | _ => ("NestedChecker$Setting", "monitor", "LNestedChecker$Walk;", true)
def tyX5 : Nat → FieldType := fun k => match k with
  | 0 => .int
  | 1 => .int
  | 2 => .int
  | 3 => .int
  | 4 => .object "NestedChecker$Automaton"
  | 5 => .object "NestedChecker$Automaton"
  | _ => .object "NestedChecker$Walk"
abbrev wsX50 : List Cond := u_ws RX5 TX5 7
theorem nmX5 : ∀ a, a < 7 → ∀ b, b < 7 → a ≠ b → (TX5 a).2.1 ≠ (TX5 b).2.1 := by decide +kernel
theorem tyX5_ok : ∀ k, k < 7 → parseFieldDescriptor (TX5 k).2.2.1 = some (tyX5 k) := by decide +kernel
def RX6 : String := "NestedChecker$Shelf"
def TX6 : u_T := fun k => match k with
  | 0 => ("NestedChecker$Shelf", "size", "I", false)
  | 1 => ("NestedChecker$Shelf", "items", "[I", true)
  | 2 => ("NestedChecker$Shelf", "length", "[I", true)
  | 3 => ("NestedChecker$Shelf", "code", "[I", true)
  | _ => ("NestedChecker$Shelf", "mood", "[I", true)
def tyX6 : Nat → FieldType := fun k => match k with
  | 0 => .int
  | 1 => .array .int
  | 2 => .array .int
  | 3 => .array .int
  | _ => .array .int
abbrev wsX60 : List Cond := u_ws RX6 TX6 5
theorem nmX6 : ∀ a, a < 5 → ∀ b, b < 5 → a ≠ b → (TX6 a).2.1 ≠ (TX6 b).2.1 := by decide +kernel
theorem tyX6_ok : ∀ k, k < 5 → parseFieldDescriptor (TX6 k).2.2.1 = some (tyX6 k) := by decide +kernel
def RX7 : String := "NestedChecker$SummaryTable"
def TX7 : u_T := fun k => match k with
  | 0 => ("NestedChecker$SummaryTable", "known", "Z", false)
  | 1 => ("NestedChecker$SummaryTable", "size", "I", false)
  | 2 => ("NestedChecker$SummaryTable", "states", "[I", true)
  | 3 => ("NestedChecker$SummaryTable", "pairs", "[I", true)
  | 4 => ("NestedChecker$SummaryTable", "present", "[I", true)
  | _ => ("NestedChecker$SummaryTable", "overs", "[I", true)
def tyX7 : Nat → FieldType := fun k => match k with
  | 0 => .boolean
  | 1 => .int
  | 2 => .array .int
  | 3 => .array .int
  | 4 => .array .int
  | _ => .array .int
abbrev wsX70 : List Cond := u_ws RX7 TX7 6
theorem nmX7 : ∀ a, a < 6 → ∀ b, b < 6 → a ≠ b → (TX7 a).2.1 ≠ (TX7 b).2.1 := by decide +kernel
theorem tyX7_ok : ∀ k, k < 6 → parseFieldDescriptor (TX7 k).2.2.1 = some (tyX7 k) := by decide +kernel
def RX8 : String := "NestedChecker$Tally"
def TX8 : u_T := fun k => match k with
  | 0 => ("NestedChecker$Tally", "calls", "I", false)
  | 1 => ("NestedChecker$Tally", "paired", "I", false)
  | 2 => ("NestedChecker$Tally", "letters", "I", false)
  | 3 => ("NestedChecker$Tally", "insides", "I", false)
  | 4 => ("NestedChecker$Tally", "insidePairs", "[I", true)
  | 5 => ("NestedChecker$Tally", "insideCode", "[I", true)
  | 6 => ("NestedChecker$Tally", "insideEnd", "[I", true)
  | 7 => ("NestedChecker$Tally", "blocks", "I", false)
  | 8 => ("NestedChecker$Tally", "blockPairs", "[I", true)
  | 9 => ("NestedChecker$Tally", "blockCode", "[I", true)
  | 10 => ("NestedChecker$Tally", "blockEnd", "[I", true)
  | 11 => ("NestedChecker$Tally", "many", "[I", true)
  | _ => ("NestedChecker$Tally", "last", "[I", true)
def tyX8 : Nat → FieldType := fun k => match k with
  | 0 => .int
  | 1 => .int
  | 2 => .int
  | 3 => .int
  | 4 => .array .int
  | 5 => .array .int
  | 6 => .array .int
  | 7 => .int
  | 8 => .array .int
  | 9 => .array .int
  | 10 => .array .int
  | 11 => .array .int
  | _ => .array .int
abbrev wsX80 : List Cond := u_ws RX8 TX8 13
theorem nmX8 : ∀ a, a < 13 → ∀ b, b < 13 → a ≠ b → (TX8 a).2.1 ≠ (TX8 b).2.1 := by decide +kernel
theorem tyX8_ok : ∀ k, k < 13 → parseFieldDescriptor (TX8 k).2.2.1 = some (tyX8 k) := by decide +kernel
def RX9 : String := "NestedChecker$Trays"
def TX9 : u_T := fun k => match k with
  | 0 => ("NestedChecker$Trays", "values", "[J", true)
  | 1 => ("NestedChecker$Trays", "sorts", "[I", true)
  | _ => ("NestedChecker$Trays", "places", "[I", true)
def tyX9 : Nat → FieldType := fun k => match k with
  | 0 => .array .long
  | 1 => .array .int
  | _ => .array .int
abbrev wsX90 : List Cond := u_ws RX9 TX9 3
theorem nmX9 : ∀ a, a < 3 → ∀ b, b < 3 → a ≠ b → (TX9 a).2.1 ≠ (TX9 b).2.1 := by decide +kernel
theorem tyX9_ok : ∀ k, k < 3 → parseFieldDescriptor (TX9 k).2.2.1 = some (tyX9 k) := by decide +kernel
def RX10 : String := "NestedChecker$Walk"
def TX10 : u_T := fun k => match k with
  | 0 => ("NestedChecker$Walk", "watched", "I", false)
  | 1 => ("NestedChecker$Walk", "steps", "I", false)
  | 2 => ("NestedChecker$Walk", "pending", "I", false)
  | 3 => ("NestedChecker$Walk", "states", "I", false)
  | 4 => ("NestedChecker$Walk", "pairs", "I", false)
  | 5 => ("NestedChecker$Walk", "belowStates", "[I", true)
  | 6 => ("NestedChecker$Walk", "belowPairs", "[I", true)
  | _ => ("NestedChecker$Walk", "belowCall", "[I", true)
def tyX10 : Nat → FieldType := fun k => match k with
  | 0 => .int
  | 1 => .int
  | 2 => .int
  | 3 => .int
  | 4 => .int
  | 5 => .array .int
  | 6 => .array .int
  | _ => .array .int
abbrev wsX100 : List Cond := u_ws RX10 TX10 8
theorem nmX10 : ∀ a, a < 8 → ∀ b, b < 8 → a ≠ b → (TX10 a).2.1 ≠ (TX10 b).2.1 := by decide +kernel
theorem tyX10_ok : ∀ k, k < 8 → parseFieldDescriptor (TX10 k).2.2.1 = some (tyX10 k) := by decide +kernel
def RX11 : String := "NestedChecker"
def TX11 : u_T := fun k => match k with
  | 0 => ("NestedChecker", "lastStatus", "I", false)
  | 1 => ("NestedChecker", "fractionTop", "J", false)
  | 2 => ("NestedChecker", "fractionBottom", "J", false)
  | 3 => ("NestedChecker", "trays", "LNestedChecker$Trays;", true)
  | 4 => ("NestedChecker", "reader", "LNestedChecker$Reader;", true)
  | 5 => ("NestedChecker", "live", "LNestedChecker$Setting;", false)
  | 6 => ("NestedChecker", "kept", "[LNestedChecker$Setting;", true)
  | 7 => ("NestedChecker", "marks", "I", false)
  | 8 => ("NestedChecker", "firstTable", "LNestedChecker$SummaryTable;", true)
  | 9 => ("NestedChecker", "secondTable", "LNestedChecker$SummaryTable;", true)
  | 10 => ("NestedChecker", "search", "LNestedChecker$Search;", true)
  | 11 => ("NestedChecker", "tally", "LNestedChecker$Tally;", true)
  | 12 => ("NestedChecker", "walker", "LNestedChecker$Walk;", true)
  | 13 => ("NestedChecker", "runCount", "LNestedChecker$RunCount;", true)
  | _ => ("NestedChecker", "drawn", "I", false)
def tyX11 : Nat → FieldType := fun k => match k with
  | 0 => .int
  | 1 => .long
  | 2 => .long
  | 3 => .object "NestedChecker$Trays"
  | 4 => .object "NestedChecker$Reader"
  | 5 => .object "NestedChecker$Setting"
  | 6 => .array (.object "NestedChecker$Setting")
  | 7 => .int
  | 8 => .object "NestedChecker$SummaryTable"
  | 9 => .object "NestedChecker$SummaryTable"
  | 10 => .object "NestedChecker$Search"
  | 11 => .object "NestedChecker$Tally"
  | 12 => .object "NestedChecker$Walk"
  | 13 => .object "NestedChecker$RunCount"
  | _ => .int
abbrev wsX110 : List Cond := u_ws RX11 TX11 15
theorem nmX11 : ∀ a, a < 15 → ∀ b, b < 15 → a ≠ b → (TX11 a).2.1 ≠ (TX11 b).2.1 := by decide +kernel
theorem tyX11_ok : ∀ k, k < 15 → parseFieldDescriptor (TX11 k).2.2.1 = some (tyX11 k) := by decide +kernel
def RX12 : String := "NestedCheckerModel"
def TX12 : u_T := fun k => match k with
  | 0 => ("NestedCheckerModel", "at", "[I", true)
  | 1 => ("NestedCheckerModel", "names", "[J", true)
  | 2 => ("NestedCheckerModel", "status", "I", false)
  | 3 => ("NestedCheckerModel", "top", "J", false)
  | 4 => ("NestedCheckerModel", "bottom", "J", false)
  | 5 => ("NestedCheckerModel", "sort", "[I", true)
  | 6 => ("NestedCheckerModel", "trayMany", "[I", true)
  | 7 => ("NestedCheckerModel", "trays", "[J", true)
  | 8 => ("NestedCheckerModel", "tape", "[B", true)
  | 9 => ("NestedCheckerModel", "text", "[B", true)
  | 10 => ("NestedCheckerModel", "taped", "I", false)
  | 11 => ("NestedCheckerModel", "size", "I", false)
  | 12 => ("NestedCheckerModel", "token", "I", false)
  | 13 => ("NestedCheckerModel", "from", "I", false)
  | 14 => ("NestedCheckerModel", "end", "I", false)
  | 15 => ("NestedCheckerModel", "value", "I", false)
  | 16 => ("NestedCheckerModel", "faultKind", "I", false)
  | 17 => ("NestedCheckerModel", "faultPlace", "I", false)
  | 18 => ("NestedCheckerModel", "faults", "I", false)
  | 19 => ("NestedCheckerModel", "seen", "I", false)
  | 20 => ("NestedCheckerModel", "ruleBy", "[I", true)
  | 21 => ("NestedCheckerModel", "rBy", "[I", true)
  | 22 => ("NestedCheckerModel", "sBy", "[I", true)
  | 23 => ("NestedCheckerModel", "belowBy", "[I", true)
  | 24 => ("NestedCheckerModel", "wordBy", "[I", true)
  | 25 => ("NestedCheckerModel", "toBy", "[J", true)
  | 26 => ("NestedCheckerModel", "betweenBy", "[J", true)
  | 27 => ("NestedCheckerModel", "overBy", "[J", true)
  | 28 => ("NestedCheckerModel", "allBy", "[J", true)
  | 29 => ("NestedCheckerModel", "partnerBy", "[I", true)
  | 30 => ("NestedCheckerModel", "pendingMany", "I", false)
  | 31 => ("NestedCheckerModel", "looseMany", "I", false)
  | 32 => ("NestedCheckerModel", "deepest", "I", false)
  | 33 => ("NestedCheckerModel", "tableR", "[I", true)
  | 34 => ("NestedCheckerModel", "tableS", "[I", true)
  | 35 => ("NestedCheckerModel", "tableMany", "I", false)
  | 36 => ("NestedCheckerModel", "matchBy", "[I", true)
  | 37 => ("NestedCheckerModel", "segmentBy", "[I", true)
  | 38 => ("NestedCheckerModel", "aheadBy", "[I", true)
  | 39 => ("NestedCheckerModel", "behindBy", "[I", true)
  | 40 => ("NestedCheckerModel", "relationBy", "[I", true)
  | 41 => ("NestedCheckerModel", "goesBy", "[I", true)
  | 42 => ("NestedCheckerModel", "spansBy", "[I", true)
  | 43 => ("NestedCheckerModel", "aheadOf", "[I", true)
  | 44 => ("NestedCheckerModel", "behindOf", "[I", true)
  | 45 => ("NestedCheckerModel", "relationMany", "I", false)
  | 46 => ("NestedCheckerModel", "foundWord", "[I", true)
  | 47 => ("NestedCheckerModel", "tryBy", "[I", true)
  | 48 => ("NestedCheckerModel", "foundMany", "I", false)
  | 49 => ("NestedCheckerModel", "drawn", "I", false)
  | _ => ("NestedCheckerModel", "marks", "I", false)
def tyX12 : Nat → FieldType := fun k => match k with
  | 0 => .array .int
  | 1 => .array .long
  | 2 => .int
  | 3 => .long
  | 4 => .long
  | 5 => .array .int
  | 6 => .array .int
  | 7 => .array .long
  | 8 => .array .byte
  | 9 => .array .byte
  | 10 => .int
  | 11 => .int
  | 12 => .int
  | 13 => .int
  | 14 => .int
  | 15 => .int
  | 16 => .int
  | 17 => .int
  | 18 => .int
  | 19 => .int
  | 20 => .array .int
  | 21 => .array .int
  | 22 => .array .int
  | 23 => .array .int
  | 24 => .array .int
  | 25 => .array .long
  | 26 => .array .long
  | 27 => .array .long
  | 28 => .array .long
  | 29 => .array .int
  | 30 => .int
  | 31 => .int
  | 32 => .int
  | 33 => .array .int
  | 34 => .array .int
  | 35 => .int
  | 36 => .array .int
  | 37 => .array .int
  | 38 => .array .int
  | 39 => .array .int
  | 40 => .array .int
  | 41 => .array .int
  | 42 => .array .int
  | 43 => .array .int
  | 44 => .array .int
  | 45 => .int
  | 46 => .array .int
  | 47 => .array .int
  | 48 => .int
  | 49 => .int
  | _ => .int
abbrev wsX120 : List Cond := u_ws RX12 TX12 51
theorem nmX12 : ∀ a, a < 51 → ∀ b, b < 51 → a ≠ b → (TX12 a).2.1 ≠ (TX12 b).2.1 := by decide +kernel
theorem tyX12_ok : ∀ k, k < 51 → parseFieldDescriptor (TX12 k).2.2.1 = some (tyX12 k) := by decide +kernel
abbrev vwCl : List vw_C := [(RX0, TX0, 12), (RX1, TX1, 12), (RX3, TX3, 7), (RX4, TX4, 17), (RX5, TX5, 7), (RX6, TX6, 5), (RX7, TX7, 6), (RX8, TX8, 13), (RX9, TX9, 3), (RX10, TX10, 8), (RX11, TX11, 15), (RX12, TX12, 51)]
abbrev jK : Type := ClassId × ClassId × ClassId × ClassId
def jT (k : jK) : List (ClassId × FieldType) := [(k.1, .byte), (k.2.1, .int), (k.2.2.1, .long), (k.2.2.2, .object "NestedChecker$Setting")]
def jW : List Cond := [.methodLinkNest "NestedChecker" 18 ⟨"NestedChecker$Reader", "<init>", "()V"⟩ "NestedChecker", .methodLinkNest "NestedChecker$Reader" 11 ⟨"NestedChecker$Setting", "<init>", "()V"⟩ "NestedChecker", .methodLinkNest "NestedChecker$Setting" 11 ⟨"NestedChecker$Automaton", "<init>", "()V"⟩ "NestedChecker", .methodLinkNest "NestedChecker$Setting" 23 ⟨"NestedChecker$Walk", "<init>", "()V"⟩ "NestedChecker", .methodLinkNest "NestedChecker" 25 ⟨"NestedChecker$Setting", "<init>", "()V"⟩ "NestedChecker", .arrayOver (.object "NestedChecker$Setting"), .methodLinkNest "NestedChecker" 36 ⟨"NestedChecker$SummaryTable", "<init>", "()V"⟩ "NestedChecker", .methodLinkNest "NestedChecker$Search" 20 ⟨"NestedChecker$Automaton", "<init>", "()V"⟩ "NestedChecker", .methodLinkNest "NestedChecker" 53 ⟨"NestedChecker$Tally", "<init>", "()V"⟩ "NestedChecker", .methodLinkNest "NestedChecker" 60 ⟨"NestedChecker$Walk", "<init>", "()V"⟩ "NestedChecker", .methodLinkNest "NestedChecker" 67 ⟨"NestedChecker$RunCount", "<init>", "()V"⟩ "NestedChecker", .methodLinkNest "NestedChecker$Trays" 22 ⟨"NestedChecker", "within", "(III)Z"⟩ "NestedChecker", .methodLinkNest "NestedChecker$Reader" 188 ⟨"NestedChecker", "within", "(III)Z"⟩ "NestedChecker"]
theorem dfX0 : ∀ j, j < 12 → defaultValue (tyX0 j) = vp_V [.int 0, .int 0, .int 0, .int 0, .int 0, .int 0, .null, .null, .null, .null, .null, .null] j := fun j hj => by
  match j, hj with
  | 0, _ => rfl
  | 1, _ => rfl
  | 2, _ => rfl
  | 3, _ => rfl
  | 4, _ => rfl
  | 5, _ => rfl
  | 6, _ => rfl
  | 7, _ => rfl
  | 8, _ => rfl
  | 9, _ => rfl
  | 10, _ => rfl
  | 11, _ => rfl
  | n + 12, h => exact absurd h (by omega)
theorem dfX1 : ∀ j, j < 12 → defaultValue (tyX1 j) = vp_V [.null, .int 0, .int 0, .int 0, .null, .int 0, .int 0, .int 0, .int 0, .int 0, .null, .null] j := fun j hj => by
  match j, hj with
  | 0, _ => rfl
  | 1, _ => rfl
  | 2, _ => rfl
  | 3, _ => rfl
  | 4, _ => rfl
  | 5, _ => rfl
  | 6, _ => rfl
  | 7, _ => rfl
  | 8, _ => rfl
  | 9, _ => rfl
  | 10, _ => rfl
  | 11, _ => rfl
  | n + 12, h => exact absurd h (by omega)
theorem dfX3 : ∀ j, j < 7 → defaultValue (tyX3 j) = vp_V [.int 0, .null, .null, .null, .null, .null, .null] j := fun j hj => by
  match j, hj with
  | 0, _ => rfl
  | 1, _ => rfl
  | 2, _ => rfl
  | 3, _ => rfl
  | 4, _ => rfl
  | 5, _ => rfl
  | 6, _ => rfl
  | n + 7, h => exact absurd h (by omega)
theorem dfX4 : ∀ j, j < 17 → defaultValue (tyX4 j) = vp_V [.null, .null, .int 0, .int 0, .int 0, .int 0, .null, .null, .null, .int 0, .null, .null, .null, .int 0, .null, .null, .null] j := fun j hj => by
  match j, hj with
  | 0, _ => rfl
  | 1, _ => rfl
  | 2, _ => rfl
  | 3, _ => rfl
  | 4, _ => rfl
  | 5, _ => rfl
  | 6, _ => rfl
  | 7, _ => rfl
  | 8, _ => rfl
  | 9, _ => rfl
  | 10, _ => rfl
  | 11, _ => rfl
  | 12, _ => rfl
  | 13, _ => rfl
  | 14, _ => rfl
  | 15, _ => rfl
  | 16, _ => rfl
  | n + 17, h => exact absurd h (by omega)
theorem dfX5 : ∀ j, j < 7 → defaultValue (tyX5 j) = vp_V [.int 0, .int 0, .int 0, .int 0, .null, .null, .null] j := fun j hj => by
  match j, hj with
  | 0, _ => rfl
  | 1, _ => rfl
  | 2, _ => rfl
  | 3, _ => rfl
  | 4, _ => rfl
  | 5, _ => rfl
  | 6, _ => rfl
  | n + 7, h => exact absurd h (by omega)
theorem dfX6 : ∀ j, j < 5 → defaultValue (tyX6 j) = vp_V [.int 0, .null, .null, .null, .null] j := fun j hj => by
  match j, hj with
  | 0, _ => rfl
  | 1, _ => rfl
  | 2, _ => rfl
  | 3, _ => rfl
  | 4, _ => rfl
  | n + 5, h => exact absurd h (by omega)
theorem dfX7 : ∀ j, j < 6 → defaultValue (tyX7 j) = vp_V [.int 0, .int 0, .null, .null, .null, .null] j := fun j hj => by
  match j, hj with
  | 0, _ => rfl
  | 1, _ => rfl
  | 2, _ => rfl
  | 3, _ => rfl
  | 4, _ => rfl
  | 5, _ => rfl
  | n + 6, h => exact absurd h (by omega)
theorem dfX8 : ∀ j, j < 13 → defaultValue (tyX8 j) = vp_V [.int 0, .int 0, .int 0, .int 0, .null, .null, .null, .int 0, .null, .null, .null, .null, .null] j := fun j hj => by
  match j, hj with
  | 0, _ => rfl
  | 1, _ => rfl
  | 2, _ => rfl
  | 3, _ => rfl
  | 4, _ => rfl
  | 5, _ => rfl
  | 6, _ => rfl
  | 7, _ => rfl
  | 8, _ => rfl
  | 9, _ => rfl
  | 10, _ => rfl
  | 11, _ => rfl
  | 12, _ => rfl
  | n + 13, h => exact absurd h (by omega)
theorem dfX9 : ∀ j, j < 3 → defaultValue (tyX9 j) = vp_V [.null, .null, .null] j := fun j hj => by
  match j, hj with
  | 0, _ => rfl
  | 1, _ => rfl
  | 2, _ => rfl
  | n + 3, h => exact absurd h (by omega)
theorem dfX10 : ∀ j, j < 8 → defaultValue (tyX10 j) = vp_V [.int 0, .int 0, .int 0, .int 0, .int 0, .null, .null, .null] j := fun j hj => by
  match j, hj with
  | 0, _ => rfl
  | 1, _ => rfl
  | 2, _ => rfl
  | 3, _ => rfl
  | 4, _ => rfl
  | 5, _ => rfl
  | 6, _ => rfl
  | 7, _ => rfl
  | n + 8, h => exact absurd h (by omega)
theorem dfX11 : ∀ j, j < 15 → defaultValue (tyX11 j) = vp_V [.int 0, .long 0, .long 0, .null, .null, .null, .null, .int 0, .null, .null, .null, .null, .null, .null, .int 0] j := fun j hj => by
  match j, hj with
  | 0, _ => rfl
  | 1, _ => rfl
  | 2, _ => rfl
  | 3, _ => rfl
  | 4, _ => rfl
  | 5, _ => rfl
  | 6, _ => rfl
  | 7, _ => rfl
  | 8, _ => rfl
  | 9, _ => rfl
  | 10, _ => rfl
  | 11, _ => rfl
  | 12, _ => rfl
  | 13, _ => rfl
  | 14, _ => rfl
  | n + 15, h => exact absurd h (by omega)
theorem dfX12 : ∀ j, j < 51 → defaultValue (tyX12 j) = vp_V [.null, .null, .int 0, .long 0, .long 0, .null, .null, .null, .null, .null, .int 0, .int 0, .int 0, .int 0, .int 0, .int 0, .int 0, .int 0, .int 0, .int 0, .null, .null, .null, .null, .null, .null, .null, .null, .null, .null, .int 0, .int 0, .int 0, .null, .null, .int 0, .null, .null, .null, .null, .null, .null, .null, .null, .null, .int 0, .null, .null, .int 0, .int 0, .int 0] j := fun j hj => by
  match j, hj with
  | 0, _ => rfl
  | 1, _ => rfl
  | 2, _ => rfl
  | 3, _ => rfl
  | 4, _ => rfl
  | 5, _ => rfl
  | 6, _ => rfl
  | 7, _ => rfl
  | 8, _ => rfl
  | 9, _ => rfl
  | 10, _ => rfl
  | 11, _ => rfl
  | 12, _ => rfl
  | 13, _ => rfl
  | 14, _ => rfl
  | 15, _ => rfl
  | 16, _ => rfl
  | 17, _ => rfl
  | 18, _ => rfl
  | 19, _ => rfl
  | 20, _ => rfl
  | 21, _ => rfl
  | 22, _ => rfl
  | 23, _ => rfl
  | 24, _ => rfl
  | 25, _ => rfl
  | 26, _ => rfl
  | 27, _ => rfl
  | 28, _ => rfl
  | 29, _ => rfl
  | 30, _ => rfl
  | 31, _ => rfl
  | 32, _ => rfl
  | 33, _ => rfl
  | 34, _ => rfl
  | 35, _ => rfl
  | 36, _ => rfl
  | 37, _ => rfl
  | 38, _ => rfl
  | 39, _ => rfl
  | 40, _ => rfl
  | 41, _ => rfl
  | 42, _ => rfl
  | 43, _ => rfl
  | 44, _ => rfl
  | 45, _ => rfl
  | 46, _ => rfl
  | 47, _ => rfl
  | 48, _ => rfl
  | 49, _ => rfl
  | 50, _ => rfl
  | n + 51, h => exact absurd h (by omega)
abbrev cX0_init : ByteArray := prog_2_method_1_code
def yX0_init : MethodName := ⟨RX0, "<init>", "()V"⟩
theorem hdX0_init : yX0_init.cls ≠ "java/lang/invoke/MethodHandle" ∧ yX0_init.cls ≠ "java/lang/invoke/VarHandle" ∧ (parseMethodDescriptor yX0_init.desc).map (fun d => d.parameters.length) = some 0 := by decide +kernel
abbrev cX10_init : ByteArray := prog_12_method_1_code
def yX10_init : MethodName := ⟨RX10, "<init>", "()V"⟩
theorem hdX10_init : yX10_init.cls ≠ "java/lang/invoke/MethodHandle" ∧ yX10_init.cls ≠ "java/lang/invoke/VarHandle" ∧ (parseMethodDescriptor yX10_init.desc).map (fun d => d.parameters.length) = some 0 := by decide +kernel
abbrev cX5_init : ByteArray := prog_7_method_1_code
def yX5_init : MethodName := ⟨RX5, "<init>", "()V"⟩
theorem hdX5_init : yX5_init.cls ≠ "java/lang/invoke/MethodHandle" ∧ yX5_init.cls ≠ "java/lang/invoke/VarHandle" ∧ (parseMethodDescriptor yX5_init.desc).map (fun d => d.parameters.length) = some 0 := by decide +kernel
end
section
theorem dX0_init_0 : decode cX0_init 0 = .ok (.aload_n 0, 1) := by decide +kernel
theorem dX0_init_1 : decode cX0_init 1 = .ok (.invokespecial 3, 3) := by decide +kernel
theorem dX0_init_4 : decode cX0_init 4 = .ok (.aload_n 0, 1) := by decide +kernel
theorem dX0_init_5 : decode cX0_init 5 = .ok (.bipush 20, 2) := by decide +kernel
theorem dX0_init_7 : decode cX0_init 7 = .ok (.newarray .int, 2) := by decide +kernel
theorem dX0_init_9 : decode cX0_init 9 = .ok (.putfield 9, 3) := by decide +kernel
theorem dX0_init_12 : decode cX0_init 12 = .ok (.aload_n 0, 1) := by decide +kernel
theorem dX0_init_13 : decode cX0_init 13 = .ok (.bipush 20, 2) := by decide +kernel
theorem dX0_init_15 : decode cX0_init 15 = .ok (.newarray .int, 2) := by decide +kernel
theorem dX0_init_17 : decode cX0_init 17 = .ok (.putfield 15, 3) := by decide +kernel
theorem dX0_init_20 : decode cX0_init 20 = .ok (.aload_n 0, 1) := by decide +kernel
theorem dX0_init_21 : decode cX0_init 21 = .ok (.bipush 20, 2) := by decide +kernel
theorem dX0_init_23 : decode cX0_init 23 = .ok (.newarray .int, 2) := by decide +kernel
theorem dX0_init_25 : decode cX0_init 25 = .ok (.putfield 18, 3) := by decide +kernel
theorem dX0_init_28 : decode cX0_init 28 = .ok (.aload_n 0, 1) := by decide +kernel
theorem dX0_init_29 : decode cX0_init 29 = .ok (.bipush 20, 2) := by decide +kernel
theorem dX0_init_31 : decode cX0_init 31 = .ok (.newarray .int, 2) := by decide +kernel
theorem dX0_init_33 : decode cX0_init 33 = .ok (.putfield 21, 3) := by decide +kernel
theorem dX0_init_36 : decode cX0_init 36 = .ok (.aload_n 0, 1) := by decide +kernel
theorem dX0_init_37 : decode cX0_init 37 = .ok (.bipush 6, 2) := by decide +kernel
theorem dX0_init_39 : decode cX0_init 39 = .ok (.newarray .int, 2) := by decide +kernel
theorem dX0_init_41 : decode cX0_init 41 = .ok (.putfield 24, 3) := by decide +kernel
theorem dX0_init_44 : decode cX0_init 44 = .ok (.aload_n 0, 1) := by decide +kernel
theorem dX0_init_45 : decode cX0_init 45 = .ok (.bipush 18, 2) := by decide +kernel
theorem dX0_init_47 : decode cX0_init 47 = .ok (.newarray .int, 2) := by decide +kernel
theorem dX0_init_49 : decode cX0_init 49 = .ok (.putfield 27, 3) := by decide +kernel
theorem dX0_init_52 : decode cX0_init 52 = .ok (.return_, 1) := by decide +kernel
theorem dX10_init_0 : decode cX10_init 0 = .ok (.aload_n 0, 1) := by decide +kernel
theorem dX10_init_1 : decode cX10_init 1 = .ok (.invokespecial 3, 3) := by decide +kernel
theorem dX10_init_4 : decode cX10_init 4 = .ok (.aload_n 0, 1) := by decide +kernel
theorem dX10_init_5 : decode cX10_init 5 = .ok (.iconst (-1), 1) := by decide +kernel
theorem dX10_init_6 : decode cX10_init 6 = .ok (.putfield 9, 3) := by decide +kernel
theorem dX10_init_9 : decode cX10_init 9 = .ok (.aload_n 0, 1) := by decide +kernel
theorem dX10_init_10 : decode cX10_init 10 = .ok (.bipush 30, 2) := by decide +kernel
theorem dX10_init_12 : decode cX10_init 12 = .ok (.newarray .int, 2) := by decide +kernel
theorem dX10_init_14 : decode cX10_init 14 = .ok (.putfield 15, 3) := by decide +kernel
theorem dX10_init_17 : decode cX10_init 17 = .ok (.aload_n 0, 1) := by decide +kernel
theorem dX10_init_18 : decode cX10_init 18 = .ok (.bipush 30, 2) := by decide +kernel
theorem dX10_init_20 : decode cX10_init 20 = .ok (.newarray .int, 2) := by decide +kernel
theorem dX10_init_22 : decode cX10_init 22 = .ok (.putfield 19, 3) := by decide +kernel
theorem dX10_init_25 : decode cX10_init 25 = .ok (.aload_n 0, 1) := by decide +kernel
theorem dX10_init_26 : decode cX10_init 26 = .ok (.bipush 30, 2) := by decide +kernel
theorem dX10_init_28 : decode cX10_init 28 = .ok (.newarray .int, 2) := by decide +kernel
theorem dX10_init_30 : decode cX10_init 30 = .ok (.putfield 22, 3) := by decide +kernel
theorem dX10_init_33 : decode cX10_init 33 = .ok (.return_, 1) := by decide +kernel
theorem dX5_init_0 : decode cX5_init 0 = .ok (.aload_n 0, 1) := by decide +kernel
theorem dX5_init_1 : decode cX5_init 1 = .ok (.invokespecial 3, 3) := by decide +kernel
theorem dX5_init_4 : decode cX5_init 4 = .ok (.aload_n 0, 1) := by decide +kernel
theorem dX5_init_5 : decode cX5_init 5 = .ok (.new 9, 3) := by decide +kernel
theorem dX5_init_8 : decode cX5_init 8 = .ok (.dup, 1) := by decide +kernel
theorem dX5_init_9 : decode cX5_init 9 = .ok (.invokespecial 11, 3) := by decide +kernel
theorem dX5_init_12 : decode cX5_init 12 = .ok (.putfield 12, 3) := by decide +kernel
theorem dX5_init_15 : decode cX5_init 15 = .ok (.aload_n 0, 1) := by decide +kernel
theorem dX5_init_16 : decode cX5_init 16 = .ok (.new 9, 3) := by decide +kernel
theorem dX5_init_19 : decode cX5_init 19 = .ok (.dup, 1) := by decide +kernel
theorem dX5_init_20 : decode cX5_init 20 = .ok (.invokespecial 11, 3) := by decide +kernel
theorem dX5_init_23 : decode cX5_init 23 = .ok (.putfield 18, 3) := by decide +kernel
theorem dX5_init_26 : decode cX5_init 26 = .ok (.aload_n 0, 1) := by decide +kernel
theorem dX5_init_27 : decode cX5_init 27 = .ok (.new 21, 3) := by decide +kernel
theorem dX5_init_30 : decode cX5_init 30 = .ok (.dup, 1) := by decide +kernel
theorem dX5_init_31 : decode cX5_init 31 = .ok (.invokespecial 23, 3) := by decide +kernel
theorem dX5_init_34 : decode cX5_init 34 = .ok (.putfield 24, 3) := by decide +kernel
theorem dX5_init_37 : decode cX5_init 37 = .ok (.return_, 1) := by decide +kernel
end
section
def ws_c_X10_init : List Cond := .code yX10_init cX10_init 1 none :: ([.methodLink "NestedChecker$Walk" 3 ⟨"java/lang/Object", "<init>", "()V"⟩, .instanceMethod ⟨"java/lang/Object", "<init>", "()V"⟩, .code ⟨"java/lang/Object", "<init>", "()V"⟩ object_method_1_code 1 none, .fieldLink "NestedChecker$Walk" 9 "NestedChecker$Walk" "watched" "I", .arrayClass .int, .fieldLink "NestedChecker$Walk" 15 "NestedChecker$Walk" "belowStates" "[I", .fieldLink "NestedChecker$Walk" 19 "NestedChecker$Walk" "belowPairs" "[I", .fieldLink "NestedChecker$Walk" 22 "NestedChecker$Walk" "belowCall" "[I"] ++ wsX100)
set_option maxHeartbeats 4000000 in
set_option maxRecDepth 100000 in
theorem c_X10_init (l : Launch) (D : va_G) (k : jK) (h0 : Nat) (sz : Nat)  : Met l yX10_init ws_c_X10_init ({ frames := 1, cells := 3, slots := 90, locals := 12 }) (jy_P [.ref h0] D vwCl (jT k) jW [(h0, .inr (9, [.int 0, .int 0, .int 0, .int 0, .int 0, .null, .null, .null]))] sz) (va_Qv (fun (u : Nat × Nat × Nat) => True) (jy_B D vwCl (va_A [(h0, .inr (9, [.int 0, .int 0, .int 0, .int 0, .int 0, .null, .null, .null]))] sz) (fun (u : Nat × Nat × Nat) => [(h0, .inr (9, [.int (-1), .int 0, .int 0, .int 0, .int 0, .ref u.1, .ref u.2.1, .ref u.2.2])), (u.1, .inl (k.2.1, 30, .inl (fun _ => 0))), (u.2.1, .inl (k.2.1, 30, .inl (fun _ => 0))), (u.2.2, .inl (k.2.1, 30, .inl (fun _ => 0)))])) (va_A [(h0, .inr (9, [.int 0, .int 0, .int 0, .int 0, .int 0, .null, .null, .null]))] sz)) 3 90 (va_A [(h0, .inr (9, [.int 0, .int 0, .int 0, .int 0, .int 0, .null, .null, .null]))] sz) := by
  refine jy_met (cc := cX10_init) (maxL := 1) (ret := none) (lv := [(0, .ref h0)]) (by decide) rfl (Nat.le_of_ble_eq_true rfl) rfl ?_
  intro p e s m below meth c F hr hlk hnm hN hA
  have hiX10 : ∀ w ∈ u_ws RX10 TX10 8, w ∈ ws_c_X10_init := fun w hw => List.mem_cons_of_mem _ (List.mem_append_right _ hw)
  refine jy_aload_n (pc' := 1) F 0 dX10_init_0 rfl rfl rfl ?_
  refine jy_objInit (pc' := 4) F dX10_init_1 (List.mem_of_getElem? (i := 1) rfl) (List.mem_of_getElem? (i := 2) rfl) (List.mem_of_getElem? (i := 3) rfl) (by decide) (Nat.le_of_ble_eq_true rfl) rfl ?_
  refine jy_aload_n (pc' := 5) F 0 dX10_init_4 rfl rfl rfl ?_
  refine jy_iconst (pc' := 6) (v := (-1)) F dX10_init_5 (by decide) rfl ?_
  refine jy_put (pc' := 9) (C := RX10) (T := TX10) (N := 8) (ci := 9) (ws' := [(h0, .inr (9, [.int (-1), .int 0, .int 0, .int 0, .int 0, .null, .null, .null]))]) F hiX10 tyX10 tyX10_ok nmX10 0 rfl rfl 0 (by decide) dX10_init_6 (List.mem_of_getElem? (i := 4) rfl) rfl rfl rfl rfl (Nat.le_of_ble_eq_true rfl) rfl rfl ?_
  refine jy_aload_n (pc' := 10) F 0 dX10_init_9 rfl rfl rfl ?_
  refine jy_bipush (pc' := 12) (v := 30) F dX10_init_10 (by decide) rfl ?_
  refine jy_newa (pc' := 14) (N' := 30) (a0 := (30, .inl (fun _ => 0))) (cells' := 1) (slots' := 30) (ws' := fun q1 => [(h0, .inr (9, [.int (-1), .int 0, .int 0, .int 0, .int 0, .null, .null, .null])), (q1, .inl (k.2.1, 30, .inl (fun _ => 0)))]) F hA 1 rfl rfl dX10_init_12 (List.mem_of_getElem? (i := 5) rfl) (fun _ => rfl) (by decide) (by decide) (by decide) rfl rfl (by decide) (by decide) (fun _ => rfl) rfl (fun q1 => ?_)
  refine jy_putF (pc' := 17) (C := RX10) (T := TX10) (N := 8) (ci := 9) (ws' := [(h0, .inr (9, [.int (-1), .int 0, .int 0, .int 0, .int 0, .ref q1, .null, .null])), (q1, .inl (k.2.1, 30, .inl (fun _ => 0)))]) F hiX10 tyX10 tyX10_ok nmX10 0 rfl rfl 5 (by decide) dX10_init_14 (List.mem_of_getElem? (i := 6) rfl) rfl hnm rfl rfl rfl rfl (Nat.le_of_ble_eq_true rfl) rfl rfl ?_
  refine jy_aload_n (pc' := 18) F 0 dX10_init_17 rfl rfl rfl ?_
  refine jy_bipush (pc' := 20) (v := 30) F dX10_init_18 (by decide) rfl ?_
  refine jy_newa (pc' := 22) (N' := 30) (a0 := (30, .inl (fun _ => 0))) (cells' := 2) (slots' := 60) (ws' := fun q2 => [(h0, .inr (9, [.int (-1), .int 0, .int 0, .int 0, .int 0, .ref q1, .null, .null])), (q1, .inl (k.2.1, 30, .inl (fun _ => 0))), (q2, .inl (k.2.1, 30, .inl (fun _ => 0)))]) F hA 1 rfl rfl dX10_init_20 (List.mem_of_getElem? (i := 5) rfl) (fun _ => rfl) (by decide) (by decide) (by decide) rfl rfl (by decide) (by decide) (fun _ => rfl) rfl (fun q2 => ?_)
  refine jy_putF (pc' := 25) (C := RX10) (T := TX10) (N := 8) (ci := 9) (ws' := [(h0, .inr (9, [.int (-1), .int 0, .int 0, .int 0, .int 0, .ref q1, .ref q2, .null])), (q1, .inl (k.2.1, 30, .inl (fun _ => 0))), (q2, .inl (k.2.1, 30, .inl (fun _ => 0)))]) F hiX10 tyX10 tyX10_ok nmX10 0 rfl rfl 6 (by decide) dX10_init_22 (List.mem_of_getElem? (i := 7) rfl) rfl hnm rfl rfl rfl rfl (Nat.le_of_ble_eq_true rfl) rfl rfl ?_
  refine jy_aload_n (pc' := 26) F 0 dX10_init_25 rfl rfl rfl ?_
  refine jy_bipush (pc' := 28) (v := 30) F dX10_init_26 (by decide) rfl ?_
  refine jy_newa (pc' := 30) (N' := 30) (a0 := (30, .inl (fun _ => 0))) (cells' := 3) (slots' := 90) (ws' := fun q3 => [(h0, .inr (9, [.int (-1), .int 0, .int 0, .int 0, .int 0, .ref q1, .ref q2, .null])), (q1, .inl (k.2.1, 30, .inl (fun _ => 0))), (q2, .inl (k.2.1, 30, .inl (fun _ => 0))), (q3, .inl (k.2.1, 30, .inl (fun _ => 0)))]) F hA 1 rfl rfl dX10_init_28 (List.mem_of_getElem? (i := 5) rfl) (fun _ => rfl) (by decide) (by decide) (by decide) rfl rfl (by decide) (by decide) (fun _ => rfl) rfl (fun q3 => ?_)
  refine jy_putF (pc' := 33) (C := RX10) (T := TX10) (N := 8) (ci := 9) (ws' := [(h0, .inr (9, [.int (-1), .int 0, .int 0, .int 0, .int 0, .ref q1, .ref q2, .ref q3])), (q1, .inl (k.2.1, 30, .inl (fun _ => 0))), (q2, .inl (k.2.1, 30, .inl (fun _ => 0))), (q3, .inl (k.2.1, 30, .inl (fun _ => 0)))]) F hiX10 tyX10 tyX10_ok nmX10 0 rfl rfl 7 (by decide) dX10_init_30 (List.mem_of_getElem? (i := 8) rfl) rfl hnm rfl rfl rfl rfl (Nat.le_of_ble_eq_true rfl) rfl rfl ?_
  refine jy_widen (cells' := 3) (slots' := 90) (by decide) (by decide) ?_
  exact jy_vret F hr hlk (q1, q2, q3) (trivial) [0, 1, 2, 3] rfl (by decide) dX10_init_33
def ws_c_X0_init : List Cond := .code yX0_init cX0_init 1 none :: ([.methodLink "NestedChecker$Automaton" 3 ⟨"java/lang/Object", "<init>", "()V"⟩, .instanceMethod ⟨"java/lang/Object", "<init>", "()V"⟩, .code ⟨"java/lang/Object", "<init>", "()V"⟩ object_method_1_code 1 none, .arrayClass .int, .fieldLink "NestedChecker$Automaton" 9 "NestedChecker$Automaton" "letter" "[I", .fieldLink "NestedChecker$Automaton" 15 "NestedChecker$Automaton" "from" "[I", .fieldLink "NestedChecker$Automaton" 18 "NestedChecker$Automaton" "to" "[I", .fieldLink "NestedChecker$Automaton" 21 "NestedChecker$Automaton" "symbol" "[I", .fieldLink "NestedChecker$Automaton" 24 "NestedChecker$Automaton" "step" "[I", .fieldLink "NestedChecker$Automaton" 27 "NestedChecker$Automaton" "stacked" "[I"] ++ wsX00)
set_option maxHeartbeats 4000000 in
set_option maxRecDepth 100000 in
theorem c_X0_init (l : Launch) (D : va_G) (k : jK) (h0 : Nat) (sz : Nat)  : Met l yX0_init ws_c_X0_init ({ frames := 1, cells := 6, slots := 104, locals := 12 }) (jy_P [.ref h0] D vwCl (jT k) jW [(h0, .inr (0, [.int 0, .int 0, .int 0, .int 0, .int 0, .int 0, .null, .null, .null, .null, .null, .null]))] sz) (va_Qv (fun (u : Nat × Nat × Nat × Nat × Nat × Nat) => True) (jy_B D vwCl (va_A [(h0, .inr (0, [.int 0, .int 0, .int 0, .int 0, .int 0, .int 0, .null, .null, .null, .null, .null, .null]))] sz) (fun (u : Nat × Nat × Nat × Nat × Nat × Nat) => [(h0, .inr (0, [.int 0, .int 0, .int 0, .int 0, .int 0, .int 0, .ref u.1, .ref u.2.1, .ref u.2.2.1, .ref u.2.2.2.1, .ref u.2.2.2.2.1, .ref u.2.2.2.2.2])), (u.1, .inl (k.2.1, 20, .inl (fun _ => 0))), (u.2.1, .inl (k.2.1, 20, .inl (fun _ => 0))), (u.2.2.1, .inl (k.2.1, 20, .inl (fun _ => 0))), (u.2.2.2.1, .inl (k.2.1, 20, .inl (fun _ => 0))), (u.2.2.2.2.1, .inl (k.2.1, 6, .inl (fun _ => 0))), (u.2.2.2.2.2, .inl (k.2.1, 18, .inl (fun _ => 0)))])) (va_A [(h0, .inr (0, [.int 0, .int 0, .int 0, .int 0, .int 0, .int 0, .null, .null, .null, .null, .null, .null]))] sz)) 6 104 (va_A [(h0, .inr (0, [.int 0, .int 0, .int 0, .int 0, .int 0, .int 0, .null, .null, .null, .null, .null, .null]))] sz) := by
  refine jy_met (cc := cX0_init) (maxL := 1) (ret := none) (lv := [(0, .ref h0)]) (by decide) rfl (Nat.le_of_ble_eq_true rfl) rfl ?_
  intro p e s m below meth c F hr hlk hnm hN hA
  have hiX0 : ∀ w ∈ u_ws RX0 TX0 12, w ∈ ws_c_X0_init := fun w hw => List.mem_cons_of_mem _ (List.mem_append_right _ hw)
  refine jy_aload_n (pc' := 1) F 0 dX0_init_0 rfl rfl rfl ?_
  refine jy_objInit (pc' := 4) F dX0_init_1 (List.mem_of_getElem? (i := 1) rfl) (List.mem_of_getElem? (i := 2) rfl) (List.mem_of_getElem? (i := 3) rfl) (by decide) (Nat.le_of_ble_eq_true rfl) rfl ?_
  refine jy_aload_n (pc' := 5) F 0 dX0_init_4 rfl rfl rfl ?_
  refine jy_bipush (pc' := 7) (v := 20) F dX0_init_5 (by decide) rfl ?_
  refine jy_newa (pc' := 9) (N' := 20) (a0 := (20, .inl (fun _ => 0))) (cells' := 1) (slots' := 20) (ws' := fun q1 => [(h0, .inr (0, [.int 0, .int 0, .int 0, .int 0, .int 0, .int 0, .null, .null, .null, .null, .null, .null])), (q1, .inl (k.2.1, 20, .inl (fun _ => 0)))]) F hA 1 rfl rfl dX0_init_7 (List.mem_of_getElem? (i := 4) rfl) (fun _ => rfl) (by decide) (by decide) (by decide) rfl rfl (by decide) (by decide) (fun _ => rfl) rfl (fun q1 => ?_)
  refine jy_putF (pc' := 12) (C := RX0) (T := TX0) (N := 12) (ci := 0) (ws' := [(h0, .inr (0, [.int 0, .int 0, .int 0, .int 0, .int 0, .int 0, .ref q1, .null, .null, .null, .null, .null])), (q1, .inl (k.2.1, 20, .inl (fun _ => 0)))]) F hiX0 tyX0 tyX0_ok nmX0 0 rfl rfl 6 (by decide) dX0_init_9 (List.mem_of_getElem? (i := 5) rfl) rfl hnm rfl rfl rfl rfl (Nat.le_of_ble_eq_true rfl) rfl rfl ?_
  refine jy_aload_n (pc' := 13) F 0 dX0_init_12 rfl rfl rfl ?_
  refine jy_bipush (pc' := 15) (v := 20) F dX0_init_13 (by decide) rfl ?_
  refine jy_newa (pc' := 17) (N' := 20) (a0 := (20, .inl (fun _ => 0))) (cells' := 2) (slots' := 40) (ws' := fun q2 => [(h0, .inr (0, [.int 0, .int 0, .int 0, .int 0, .int 0, .int 0, .ref q1, .null, .null, .null, .null, .null])), (q1, .inl (k.2.1, 20, .inl (fun _ => 0))), (q2, .inl (k.2.1, 20, .inl (fun _ => 0)))]) F hA 1 rfl rfl dX0_init_15 (List.mem_of_getElem? (i := 4) rfl) (fun _ => rfl) (by decide) (by decide) (by decide) rfl rfl (by decide) (by decide) (fun _ => rfl) rfl (fun q2 => ?_)
  refine jy_putF (pc' := 20) (C := RX0) (T := TX0) (N := 12) (ci := 0) (ws' := [(h0, .inr (0, [.int 0, .int 0, .int 0, .int 0, .int 0, .int 0, .ref q1, .ref q2, .null, .null, .null, .null])), (q1, .inl (k.2.1, 20, .inl (fun _ => 0))), (q2, .inl (k.2.1, 20, .inl (fun _ => 0)))]) F hiX0 tyX0 tyX0_ok nmX0 0 rfl rfl 7 (by decide) dX0_init_17 (List.mem_of_getElem? (i := 6) rfl) rfl hnm rfl rfl rfl rfl (Nat.le_of_ble_eq_true rfl) rfl rfl ?_
  refine jy_aload_n (pc' := 21) F 0 dX0_init_20 rfl rfl rfl ?_
  refine jy_bipush (pc' := 23) (v := 20) F dX0_init_21 (by decide) rfl ?_
  refine jy_newa (pc' := 25) (N' := 20) (a0 := (20, .inl (fun _ => 0))) (cells' := 3) (slots' := 60) (ws' := fun q3 => [(h0, .inr (0, [.int 0, .int 0, .int 0, .int 0, .int 0, .int 0, .ref q1, .ref q2, .null, .null, .null, .null])), (q1, .inl (k.2.1, 20, .inl (fun _ => 0))), (q2, .inl (k.2.1, 20, .inl (fun _ => 0))), (q3, .inl (k.2.1, 20, .inl (fun _ => 0)))]) F hA 1 rfl rfl dX0_init_23 (List.mem_of_getElem? (i := 4) rfl) (fun _ => rfl) (by decide) (by decide) (by decide) rfl rfl (by decide) (by decide) (fun _ => rfl) rfl (fun q3 => ?_)
  refine jy_putF (pc' := 28) (C := RX0) (T := TX0) (N := 12) (ci := 0) (ws' := [(h0, .inr (0, [.int 0, .int 0, .int 0, .int 0, .int 0, .int 0, .ref q1, .ref q2, .ref q3, .null, .null, .null])), (q1, .inl (k.2.1, 20, .inl (fun _ => 0))), (q2, .inl (k.2.1, 20, .inl (fun _ => 0))), (q3, .inl (k.2.1, 20, .inl (fun _ => 0)))]) F hiX0 tyX0 tyX0_ok nmX0 0 rfl rfl 8 (by decide) dX0_init_25 (List.mem_of_getElem? (i := 7) rfl) rfl hnm rfl rfl rfl rfl (Nat.le_of_ble_eq_true rfl) rfl rfl ?_
  refine jy_aload_n (pc' := 29) F 0 dX0_init_28 rfl rfl rfl ?_
  refine jy_bipush (pc' := 31) (v := 20) F dX0_init_29 (by decide) rfl ?_
  refine jy_newa (pc' := 33) (N' := 20) (a0 := (20, .inl (fun _ => 0))) (cells' := 4) (slots' := 80) (ws' := fun q4 => [(h0, .inr (0, [.int 0, .int 0, .int 0, .int 0, .int 0, .int 0, .ref q1, .ref q2, .ref q3, .null, .null, .null])), (q1, .inl (k.2.1, 20, .inl (fun _ => 0))), (q2, .inl (k.2.1, 20, .inl (fun _ => 0))), (q3, .inl (k.2.1, 20, .inl (fun _ => 0))), (q4, .inl (k.2.1, 20, .inl (fun _ => 0)))]) F hA 1 rfl rfl dX0_init_31 (List.mem_of_getElem? (i := 4) rfl) (fun _ => rfl) (by decide) (by decide) (by decide) rfl rfl (by decide) (by decide) (fun _ => rfl) rfl (fun q4 => ?_)
  refine jy_putF (pc' := 36) (C := RX0) (T := TX0) (N := 12) (ci := 0) (ws' := [(h0, .inr (0, [.int 0, .int 0, .int 0, .int 0, .int 0, .int 0, .ref q1, .ref q2, .ref q3, .ref q4, .null, .null])), (q1, .inl (k.2.1, 20, .inl (fun _ => 0))), (q2, .inl (k.2.1, 20, .inl (fun _ => 0))), (q3, .inl (k.2.1, 20, .inl (fun _ => 0))), (q4, .inl (k.2.1, 20, .inl (fun _ => 0)))]) F hiX0 tyX0 tyX0_ok nmX0 0 rfl rfl 9 (by decide) dX0_init_33 (List.mem_of_getElem? (i := 8) rfl) rfl hnm rfl rfl rfl rfl (Nat.le_of_ble_eq_true rfl) rfl rfl ?_
  refine jy_aload_n (pc' := 37) F 0 dX0_init_36 rfl rfl rfl ?_
  refine jy_bipush (pc' := 39) (v := 6) F dX0_init_37 (by decide) rfl ?_
  refine jy_newa (pc' := 41) (N' := 6) (a0 := (6, .inl (fun _ => 0))) (cells' := 5) (slots' := 86) (ws' := fun q5 => [(h0, .inr (0, [.int 0, .int 0, .int 0, .int 0, .int 0, .int 0, .ref q1, .ref q2, .ref q3, .ref q4, .null, .null])), (q1, .inl (k.2.1, 20, .inl (fun _ => 0))), (q2, .inl (k.2.1, 20, .inl (fun _ => 0))), (q3, .inl (k.2.1, 20, .inl (fun _ => 0))), (q4, .inl (k.2.1, 20, .inl (fun _ => 0))), (q5, .inl (k.2.1, 6, .inl (fun _ => 0)))]) F hA 1 rfl rfl dX0_init_39 (List.mem_of_getElem? (i := 4) rfl) (fun _ => rfl) (by decide) (by decide) (by decide) rfl rfl (by decide) (by decide) (fun _ => rfl) rfl (fun q5 => ?_)
  refine jy_putF (pc' := 44) (C := RX0) (T := TX0) (N := 12) (ci := 0) (ws' := [(h0, .inr (0, [.int 0, .int 0, .int 0, .int 0, .int 0, .int 0, .ref q1, .ref q2, .ref q3, .ref q4, .ref q5, .null])), (q1, .inl (k.2.1, 20, .inl (fun _ => 0))), (q2, .inl (k.2.1, 20, .inl (fun _ => 0))), (q3, .inl (k.2.1, 20, .inl (fun _ => 0))), (q4, .inl (k.2.1, 20, .inl (fun _ => 0))), (q5, .inl (k.2.1, 6, .inl (fun _ => 0)))]) F hiX0 tyX0 tyX0_ok nmX0 0 rfl rfl 10 (by decide) dX0_init_41 (List.mem_of_getElem? (i := 9) rfl) rfl hnm rfl rfl rfl rfl (Nat.le_of_ble_eq_true rfl) rfl rfl ?_
  refine jy_aload_n (pc' := 45) F 0 dX0_init_44 rfl rfl rfl ?_
  refine jy_bipush (pc' := 47) (v := 18) F dX0_init_45 (by decide) rfl ?_
  refine jy_newa (pc' := 49) (N' := 18) (a0 := (18, .inl (fun _ => 0))) (cells' := 6) (slots' := 104) (ws' := fun q6 => [(h0, .inr (0, [.int 0, .int 0, .int 0, .int 0, .int 0, .int 0, .ref q1, .ref q2, .ref q3, .ref q4, .ref q5, .null])), (q1, .inl (k.2.1, 20, .inl (fun _ => 0))), (q2, .inl (k.2.1, 20, .inl (fun _ => 0))), (q3, .inl (k.2.1, 20, .inl (fun _ => 0))), (q4, .inl (k.2.1, 20, .inl (fun _ => 0))), (q5, .inl (k.2.1, 6, .inl (fun _ => 0))), (q6, .inl (k.2.1, 18, .inl (fun _ => 0)))]) F hA 1 rfl rfl dX0_init_47 (List.mem_of_getElem? (i := 4) rfl) (fun _ => rfl) (by decide) (by decide) (by decide) rfl rfl (by decide) (by decide) (fun _ => rfl) rfl (fun q6 => ?_)
  refine jy_putF (pc' := 52) (C := RX0) (T := TX0) (N := 12) (ci := 0) (ws' := [(h0, .inr (0, [.int 0, .int 0, .int 0, .int 0, .int 0, .int 0, .ref q1, .ref q2, .ref q3, .ref q4, .ref q5, .ref q6])), (q1, .inl (k.2.1, 20, .inl (fun _ => 0))), (q2, .inl (k.2.1, 20, .inl (fun _ => 0))), (q3, .inl (k.2.1, 20, .inl (fun _ => 0))), (q4, .inl (k.2.1, 20, .inl (fun _ => 0))), (q5, .inl (k.2.1, 6, .inl (fun _ => 0))), (q6, .inl (k.2.1, 18, .inl (fun _ => 0)))]) F hiX0 tyX0 tyX0_ok nmX0 0 rfl rfl 11 (by decide) dX0_init_49 (List.mem_of_getElem? (i := 10) rfl) rfl hnm rfl rfl rfl rfl (Nat.le_of_ble_eq_true rfl) rfl rfl ?_
  refine jy_widen (cells' := 6) (slots' := 104) (by decide) (by decide) ?_
  exact jy_vret F hr hlk (q1, q2, q3, q4, q5, q6) (trivial) [0, 1, 2, 3, 4, 5, 6] rfl (by decide) dX0_init_52
def ws_c_X5_init : List Cond := .code yX5_init cX5_init 1 none :: ([.methodLink "NestedChecker$Setting" 3 ⟨"java/lang/Object", "<init>", "()V"⟩, .instanceMethod ⟨"java/lang/Object", "<init>", "()V"⟩, .code ⟨"java/lang/Object", "<init>", "()V"⟩ object_method_1_code 1 none, .classLink "NestedChecker$Setting" 9 "NestedChecker$Automaton", .instantiable "NestedChecker$Automaton" 12, .initialized "NestedChecker$Automaton", .code ⟨"NestedChecker$Automaton", "<init>", "()V"⟩ cX0_init 1 none, .methodLink "NestedChecker$Automaton" 3 ⟨"java/lang/Object", "<init>", "()V"⟩, .arrayClass .int, .fieldLink "NestedChecker$Automaton" 9 "NestedChecker$Automaton" "letter" "[I", .fieldLink "NestedChecker$Automaton" 15 "NestedChecker$Automaton" "from" "[I", .fieldLink "NestedChecker$Automaton" 18 "NestedChecker$Automaton" "to" "[I", .fieldLink "NestedChecker$Automaton" 21 "NestedChecker$Automaton" "symbol" "[I", .fieldLink "NestedChecker$Automaton" 24 "NestedChecker$Automaton" "step" "[I", .fieldLink "NestedChecker$Automaton" 27 "NestedChecker$Automaton" "stacked" "[I", .instanceMethod ⟨"NestedChecker$Automaton", "<init>", "()V"⟩, .fieldLink "NestedChecker$Setting" 12 "NestedChecker$Setting" "first" "LNestedChecker$Automaton;", .fieldLink "NestedChecker$Setting" 18 "NestedChecker$Setting" "second" "LNestedChecker$Automaton;", .classLink "NestedChecker$Setting" 21 "NestedChecker$Walk", .instantiable "NestedChecker$Walk" 8, .initialized "NestedChecker$Walk", .code ⟨"NestedChecker$Walk", "<init>", "()V"⟩ cX10_init 1 none, .methodLink "NestedChecker$Walk" 3 ⟨"java/lang/Object", "<init>", "()V"⟩, .fieldLink "NestedChecker$Walk" 9 "NestedChecker$Walk" "watched" "I", .fieldLink "NestedChecker$Walk" 15 "NestedChecker$Walk" "belowStates" "[I", .fieldLink "NestedChecker$Walk" 19 "NestedChecker$Walk" "belowPairs" "[I", .fieldLink "NestedChecker$Walk" 22 "NestedChecker$Walk" "belowCall" "[I", .instanceMethod ⟨"NestedChecker$Walk", "<init>", "()V"⟩, .fieldLink "NestedChecker$Setting" 24 "NestedChecker$Setting" "monitor" "LNestedChecker$Walk;"] ++ wsX00 ++ wsX50 ++ wsX100)
set_option maxRecDepth 20000 in
theorem g_c_X5_init_c_X0_init : GoodIn ws_c_X5_init ws_c_X0_init := goodIn_r _ [7, 8, 2, 3, 9, 10, 11, 12, 13, 14, 15, 30, 31, 32, 33, 34, 35, 36, 37, 38, 39, 40, 41] (by decide +kernel) (by decide +kernel)
set_option maxRecDepth 20000 in
theorem g_c_X5_init_c_X10_init : GoodIn ws_c_X5_init ws_c_X10_init := goodIn_r _ [22, 23, 2, 3, 24, 9, 25, 26, 27, 49, 50, 51, 52, 53, 54, 55, 56] (by decide +kernel) (by decide +kernel)
set_option maxHeartbeats 4000000 in
set_option maxRecDepth 100000 in
theorem c_X5_init (l : Launch) (D : va_G) (k : jK) (h0 : Nat) (sz : Nat)  : Met l yX5_init ws_c_X5_init ({ frames := 2, cells := 18, slots := 330, locals := 32 }) (jy_P [.ref h0] D vwCl (jT k) jW [(h0, .inr (4, [.int 0, .int 0, .int 0, .int 0, .null, .null, .null]))] sz) (va_Qv (fun (u : Nat × Nat × Nat × Nat × Nat × Nat × Nat × Nat × Nat × Nat × Nat × Nat × Nat × Nat × Nat × Nat × Nat × Nat) => True) (jy_B D vwCl (va_A [(h0, .inr (4, [.int 0, .int 0, .int 0, .int 0, .null, .null, .null]))] sz) (fun (u : Nat × Nat × Nat × Nat × Nat × Nat × Nat × Nat × Nat × Nat × Nat × Nat × Nat × Nat × Nat × Nat × Nat × Nat) => [(h0, .inr (4, [.int 0, .int 0, .int 0, .int 0, .ref u.1, .ref u.2.2.2.2.2.2.2.1, .ref u.2.2.2.2.2.2.2.2.2.2.2.2.2.2.1])), (u.1, .inr (0, [.int 0, .int 0, .int 0, .int 0, .int 0, .int 0, .ref u.2.1, .ref u.2.2.1, .ref u.2.2.2.1, .ref u.2.2.2.2.1, .ref u.2.2.2.2.2.1, .ref u.2.2.2.2.2.2.1])), (u.2.1, .inl (k.2.1, 20, .inl (fun _ => 0))), (u.2.2.1, .inl (k.2.1, 20, .inl (fun _ => 0))), (u.2.2.2.1, .inl (k.2.1, 20, .inl (fun _ => 0))), (u.2.2.2.2.1, .inl (k.2.1, 20, .inl (fun _ => 0))), (u.2.2.2.2.2.1, .inl (k.2.1, 6, .inl (fun _ => 0))), (u.2.2.2.2.2.2.1, .inl (k.2.1, 18, .inl (fun _ => 0))), (u.2.2.2.2.2.2.2.1, .inr (0, [.int 0, .int 0, .int 0, .int 0, .int 0, .int 0, .ref u.2.2.2.2.2.2.2.2.1, .ref u.2.2.2.2.2.2.2.2.2.1, .ref u.2.2.2.2.2.2.2.2.2.2.1, .ref u.2.2.2.2.2.2.2.2.2.2.2.1, .ref u.2.2.2.2.2.2.2.2.2.2.2.2.1, .ref u.2.2.2.2.2.2.2.2.2.2.2.2.2.1])), (u.2.2.2.2.2.2.2.2.1, .inl (k.2.1, 20, .inl (fun _ => 0))), (u.2.2.2.2.2.2.2.2.2.1, .inl (k.2.1, 20, .inl (fun _ => 0))), (u.2.2.2.2.2.2.2.2.2.2.1, .inl (k.2.1, 20, .inl (fun _ => 0))), (u.2.2.2.2.2.2.2.2.2.2.2.1, .inl (k.2.1, 20, .inl (fun _ => 0))), (u.2.2.2.2.2.2.2.2.2.2.2.2.1, .inl (k.2.1, 6, .inl (fun _ => 0))), (u.2.2.2.2.2.2.2.2.2.2.2.2.2.1, .inl (k.2.1, 18, .inl (fun _ => 0))), (u.2.2.2.2.2.2.2.2.2.2.2.2.2.2.1, .inr (9, [.int (-1), .int 0, .int 0, .int 0, .int 0, .ref u.2.2.2.2.2.2.2.2.2.2.2.2.2.2.2.1, .ref u.2.2.2.2.2.2.2.2.2.2.2.2.2.2.2.2.1, .ref u.2.2.2.2.2.2.2.2.2.2.2.2.2.2.2.2.2])), (u.2.2.2.2.2.2.2.2.2.2.2.2.2.2.2.1, .inl (k.2.1, 30, .inl (fun _ => 0))), (u.2.2.2.2.2.2.2.2.2.2.2.2.2.2.2.2.1, .inl (k.2.1, 30, .inl (fun _ => 0))), (u.2.2.2.2.2.2.2.2.2.2.2.2.2.2.2.2.2, .inl (k.2.1, 30, .inl (fun _ => 0)))])) (va_A [(h0, .inr (4, [.int 0, .int 0, .int 0, .int 0, .null, .null, .null]))] sz)) 18 330 (va_A [(h0, .inr (4, [.int 0, .int 0, .int 0, .int 0, .null, .null, .null]))] sz) := by
  refine jy_met (cc := cX5_init) (maxL := 1) (ret := none) (lv := [(0, .ref h0)]) (by decide) rfl (Nat.le_of_ble_eq_true rfl) rfl ?_
  intro p e s m below meth c F hr hlk hnm hN hA
  have hiX0 : ∀ w ∈ u_ws RX0 TX0 12, w ∈ ws_c_X5_init := fun w hw => List.mem_cons_of_mem _ (List.mem_append_left _ (List.mem_append_left _ (List.mem_append_right _ hw)))
  have hiX5 : ∀ w ∈ u_ws RX5 TX5 7, w ∈ ws_c_X5_init := fun w hw => List.mem_cons_of_mem _ (List.mem_append_left _ (List.mem_append_right _ hw))
  have hiX10 : ∀ w ∈ u_ws RX10 TX10 8, w ∈ ws_c_X5_init := fun w hw => List.mem_cons_of_mem _ (List.mem_append_right _ hw)
  refine jy_aload_n (pc' := 1) F 0 dX5_init_0 rfl rfl rfl ?_
  refine jy_objInit (pc' := 4) F dX5_init_1 (List.mem_of_getElem? (i := 1) rfl) (List.mem_of_getElem? (i := 2) rfl) (List.mem_of_getElem? (i := 3) rfl) (by decide) (Nat.le_of_ble_eq_true rfl) rfl ?_
  refine jy_aload_n (pc' := 5) F 0 dX5_init_4 rfl rfl rfl ?_
  refine jy_new (pc' := 8) (C := RX0) (T := TX0) (N := 12) (ci := 0) (fs := [.int 0, .int 0, .int 0, .int 0, .int 0, .int 0, .null, .null, .null, .null, .null, .null]) (cells' := 1) (slots' := 12) (ws' := fun q1 => [(h0, .inr (4, [.int 0, .int 0, .int 0, .int 0, .null, .null, .null])), (q1, .inr (0, [.int 0, .int 0, .int 0, .int 0, .int 0, .int 0, .null, .null, .null, .null, .null, .null]))]) F hA hiX0 tyX0 tyX0_ok rfl dfX0 dX5_init_5 (List.mem_of_getElem? (i := 4) rfl) (List.mem_of_getElem? (i := 5) rfl) (List.mem_of_getElem? (i := 6) rfl) rfl rfl (by decide) (by decide) (fun _ => rfl) rfl (fun q1 => ?_)
  refine jy_dup (pc' := 9) F dX5_init_8 rfl rfl ?_
  refine jy_callv (pc' := 12) (cells' := 7) (slots' := 116) (wr := [(h0, .inr (4, [.int 0, .int 0, .int 0, .int 0, .null, .null, .null]))]) hA [1] [0] rfl rfl (by decide) (by decide) (jy_runIN (As := []) (b := q1) (st := [.ref q1, .ref h0]) F hN (fun sz => c_X0_init l D k q1 sz ) (jy_cIN F g_c_X5_init_c_X0_init rfl hdX0_init (List.mem_of_getElem? (i := 6) rfl) ((hN _ (List.mem_of_getElem? (i := 2) rfl)).2) (List.mem_of_getElem? (i := 16) rfl) rfl rfl rfl ⟨by decide, by decide⟩) [1] rfl (by decide) rfl rfl (Nat.le_of_ble_eq_true rfl) dX5_init_9 ⟨by decide, by decide⟩) rfl rfl rfl (fun u2 e3 => ?_)
  obtain ⟨q4, q5, q6, q7, q8, q9⟩ := u2
  refine jy_ws (ws' := [(h0, .inr (4, [.int 0, .int 0, .int 0, .int 0, .null, .null, .null])), (q1, .inr (0, [.int 0, .int 0, .int 0, .int 0, .int 0, .int 0, .ref q4, .ref q5, .ref q6, .ref q7, .ref q8, .ref q9])), (q4, .inl (k.2.1, 20, .inl (fun _ => 0))), (q5, .inl (k.2.1, 20, .inl (fun _ => 0))), (q6, .inl (k.2.1, 20, .inl (fun _ => 0))), (q7, .inl (k.2.1, 20, .inl (fun _ => 0))), (q8, .inl (k.2.1, 6, .inl (fun _ => 0))), (q9, .inl (k.2.1, 18, .inl (fun _ => 0)))]) rfl ?_
  refine jy_putF (pc' := 15) (C := RX5) (T := TX5) (N := 7) (ci := 4) (ws' := [(h0, .inr (4, [.int 0, .int 0, .int 0, .int 0, .ref q1, .null, .null])), (q1, .inr (0, [.int 0, .int 0, .int 0, .int 0, .int 0, .int 0, .ref q4, .ref q5, .ref q6, .ref q7, .ref q8, .ref q9])), (q4, .inl (k.2.1, 20, .inl (fun _ => 0))), (q5, .inl (k.2.1, 20, .inl (fun _ => 0))), (q6, .inl (k.2.1, 20, .inl (fun _ => 0))), (q7, .inl (k.2.1, 20, .inl (fun _ => 0))), (q8, .inl (k.2.1, 6, .inl (fun _ => 0))), (q9, .inl (k.2.1, 18, .inl (fun _ => 0)))]) F hiX5 tyX5 tyX5_ok nmX5 0 rfl rfl 4 (by decide) dX5_init_12 (List.mem_of_getElem? (i := 17) rfl) rfl hnm rfl rfl rfl rfl (Nat.le_of_ble_eq_true rfl) rfl rfl ?_
  refine jy_aload_n (pc' := 16) F 0 dX5_init_15 rfl rfl rfl ?_
  refine jy_new (pc' := 19) (C := RX0) (T := TX0) (N := 12) (ci := 0) (fs := [.int 0, .int 0, .int 0, .int 0, .int 0, .int 0, .null, .null, .null, .null, .null, .null]) (cells' := 8) (slots' := 128) (ws' := fun q10 => [(h0, .inr (4, [.int 0, .int 0, .int 0, .int 0, .ref q1, .null, .null])), (q1, .inr (0, [.int 0, .int 0, .int 0, .int 0, .int 0, .int 0, .ref q4, .ref q5, .ref q6, .ref q7, .ref q8, .ref q9])), (q4, .inl (k.2.1, 20, .inl (fun _ => 0))), (q5, .inl (k.2.1, 20, .inl (fun _ => 0))), (q6, .inl (k.2.1, 20, .inl (fun _ => 0))), (q7, .inl (k.2.1, 20, .inl (fun _ => 0))), (q8, .inl (k.2.1, 6, .inl (fun _ => 0))), (q9, .inl (k.2.1, 18, .inl (fun _ => 0))), (q10, .inr (0, [.int 0, .int 0, .int 0, .int 0, .int 0, .int 0, .null, .null, .null, .null, .null, .null]))]) F hA hiX0 tyX0 tyX0_ok rfl dfX0 dX5_init_16 (List.mem_of_getElem? (i := 4) rfl) (List.mem_of_getElem? (i := 5) rfl) (List.mem_of_getElem? (i := 6) rfl) rfl rfl (by decide) (by decide) (fun _ => rfl) rfl (fun q10 => ?_)
  refine jy_dup (pc' := 20) F dX5_init_19 rfl rfl ?_
  refine jy_callv (pc' := 23) (cells' := 14) (slots' := 232) (wr := [(h0, .inr (4, [.int 0, .int 0, .int 0, .int 0, .ref q1, .null, .null])), (q1, .inr (0, [.int 0, .int 0, .int 0, .int 0, .int 0, .int 0, .ref q4, .ref q5, .ref q6, .ref q7, .ref q8, .ref q9])), (q4, .inl (k.2.1, 20, .inl (fun _ => 0))), (q5, .inl (k.2.1, 20, .inl (fun _ => 0))), (q6, .inl (k.2.1, 20, .inl (fun _ => 0))), (q7, .inl (k.2.1, 20, .inl (fun _ => 0))), (q8, .inl (k.2.1, 6, .inl (fun _ => 0))), (q9, .inl (k.2.1, 18, .inl (fun _ => 0)))]) hA [8] [0, 1, 2, 3, 4, 5, 6, 7] rfl rfl (by decide) (by decide) (jy_runIN (As := []) (b := q10) (st := [.ref q10, .ref h0]) F hN (fun sz => c_X0_init l D k q10 sz ) (jy_cIN F g_c_X5_init_c_X0_init rfl hdX0_init (List.mem_of_getElem? (i := 6) rfl) ((hN _ (List.mem_of_getElem? (i := 2) rfl)).2) (List.mem_of_getElem? (i := 16) rfl) rfl rfl rfl ⟨by decide, by decide⟩) [8] rfl (by decide) rfl rfl (Nat.le_of_ble_eq_true rfl) dX5_init_20 ⟨by decide, by decide⟩) rfl rfl rfl (fun u11 e12 => ?_)
  obtain ⟨q13, q14, q15, q16, q17, q18⟩ := u11
  refine jy_ws (ws' := [(h0, .inr (4, [.int 0, .int 0, .int 0, .int 0, .ref q1, .null, .null])), (q1, .inr (0, [.int 0, .int 0, .int 0, .int 0, .int 0, .int 0, .ref q4, .ref q5, .ref q6, .ref q7, .ref q8, .ref q9])), (q4, .inl (k.2.1, 20, .inl (fun _ => 0))), (q5, .inl (k.2.1, 20, .inl (fun _ => 0))), (q6, .inl (k.2.1, 20, .inl (fun _ => 0))), (q7, .inl (k.2.1, 20, .inl (fun _ => 0))), (q8, .inl (k.2.1, 6, .inl (fun _ => 0))), (q9, .inl (k.2.1, 18, .inl (fun _ => 0))), (q10, .inr (0, [.int 0, .int 0, .int 0, .int 0, .int 0, .int 0, .ref q13, .ref q14, .ref q15, .ref q16, .ref q17, .ref q18])), (q13, .inl (k.2.1, 20, .inl (fun _ => 0))), (q14, .inl (k.2.1, 20, .inl (fun _ => 0))), (q15, .inl (k.2.1, 20, .inl (fun _ => 0))), (q16, .inl (k.2.1, 20, .inl (fun _ => 0))), (q17, .inl (k.2.1, 6, .inl (fun _ => 0))), (q18, .inl (k.2.1, 18, .inl (fun _ => 0)))]) rfl ?_
  refine jy_putF (pc' := 26) (C := RX5) (T := TX5) (N := 7) (ci := 4) (ws' := [(h0, .inr (4, [.int 0, .int 0, .int 0, .int 0, .ref q1, .ref q10, .null])), (q1, .inr (0, [.int 0, .int 0, .int 0, .int 0, .int 0, .int 0, .ref q4, .ref q5, .ref q6, .ref q7, .ref q8, .ref q9])), (q4, .inl (k.2.1, 20, .inl (fun _ => 0))), (q5, .inl (k.2.1, 20, .inl (fun _ => 0))), (q6, .inl (k.2.1, 20, .inl (fun _ => 0))), (q7, .inl (k.2.1, 20, .inl (fun _ => 0))), (q8, .inl (k.2.1, 6, .inl (fun _ => 0))), (q9, .inl (k.2.1, 18, .inl (fun _ => 0))), (q10, .inr (0, [.int 0, .int 0, .int 0, .int 0, .int 0, .int 0, .ref q13, .ref q14, .ref q15, .ref q16, .ref q17, .ref q18])), (q13, .inl (k.2.1, 20, .inl (fun _ => 0))), (q14, .inl (k.2.1, 20, .inl (fun _ => 0))), (q15, .inl (k.2.1, 20, .inl (fun _ => 0))), (q16, .inl (k.2.1, 20, .inl (fun _ => 0))), (q17, .inl (k.2.1, 6, .inl (fun _ => 0))), (q18, .inl (k.2.1, 18, .inl (fun _ => 0)))]) F hiX5 tyX5 tyX5_ok nmX5 0 rfl rfl 5 (by decide) dX5_init_23 (List.mem_of_getElem? (i := 18) rfl) rfl hnm rfl rfl rfl rfl (Nat.le_of_ble_eq_true rfl) rfl rfl ?_
  refine jy_aload_n (pc' := 27) F 0 dX5_init_26 rfl rfl rfl ?_
  refine jy_new (pc' := 30) (C := RX10) (T := TX10) (N := 8) (ci := 9) (fs := [.int 0, .int 0, .int 0, .int 0, .int 0, .null, .null, .null]) (cells' := 15) (slots' := 240) (ws' := fun q19 => [(h0, .inr (4, [.int 0, .int 0, .int 0, .int 0, .ref q1, .ref q10, .null])), (q1, .inr (0, [.int 0, .int 0, .int 0, .int 0, .int 0, .int 0, .ref q4, .ref q5, .ref q6, .ref q7, .ref q8, .ref q9])), (q4, .inl (k.2.1, 20, .inl (fun _ => 0))), (q5, .inl (k.2.1, 20, .inl (fun _ => 0))), (q6, .inl (k.2.1, 20, .inl (fun _ => 0))), (q7, .inl (k.2.1, 20, .inl (fun _ => 0))), (q8, .inl (k.2.1, 6, .inl (fun _ => 0))), (q9, .inl (k.2.1, 18, .inl (fun _ => 0))), (q10, .inr (0, [.int 0, .int 0, .int 0, .int 0, .int 0, .int 0, .ref q13, .ref q14, .ref q15, .ref q16, .ref q17, .ref q18])), (q13, .inl (k.2.1, 20, .inl (fun _ => 0))), (q14, .inl (k.2.1, 20, .inl (fun _ => 0))), (q15, .inl (k.2.1, 20, .inl (fun _ => 0))), (q16, .inl (k.2.1, 20, .inl (fun _ => 0))), (q17, .inl (k.2.1, 6, .inl (fun _ => 0))), (q18, .inl (k.2.1, 18, .inl (fun _ => 0))), (q19, .inr (9, [.int 0, .int 0, .int 0, .int 0, .int 0, .null, .null, .null]))]) F hA hiX10 tyX10 tyX10_ok rfl dfX10 dX5_init_27 (List.mem_of_getElem? (i := 19) rfl) (List.mem_of_getElem? (i := 20) rfl) (List.mem_of_getElem? (i := 21) rfl) rfl rfl (by decide) (by decide) (fun _ => rfl) rfl (fun q19 => ?_)
  refine jy_dup (pc' := 31) F dX5_init_30 rfl rfl ?_
  refine jy_callv (pc' := 34) (cells' := 18) (slots' := 330) (wr := [(h0, .inr (4, [.int 0, .int 0, .int 0, .int 0, .ref q1, .ref q10, .null])), (q1, .inr (0, [.int 0, .int 0, .int 0, .int 0, .int 0, .int 0, .ref q4, .ref q5, .ref q6, .ref q7, .ref q8, .ref q9])), (q4, .inl (k.2.1, 20, .inl (fun _ => 0))), (q5, .inl (k.2.1, 20, .inl (fun _ => 0))), (q6, .inl (k.2.1, 20, .inl (fun _ => 0))), (q7, .inl (k.2.1, 20, .inl (fun _ => 0))), (q8, .inl (k.2.1, 6, .inl (fun _ => 0))), (q9, .inl (k.2.1, 18, .inl (fun _ => 0))), (q10, .inr (0, [.int 0, .int 0, .int 0, .int 0, .int 0, .int 0, .ref q13, .ref q14, .ref q15, .ref q16, .ref q17, .ref q18])), (q13, .inl (k.2.1, 20, .inl (fun _ => 0))), (q14, .inl (k.2.1, 20, .inl (fun _ => 0))), (q15, .inl (k.2.1, 20, .inl (fun _ => 0))), (q16, .inl (k.2.1, 20, .inl (fun _ => 0))), (q17, .inl (k.2.1, 6, .inl (fun _ => 0))), (q18, .inl (k.2.1, 18, .inl (fun _ => 0)))]) hA [15] [0, 1, 2, 3, 4, 5, 6, 7, 8, 9, 10, 11, 12, 13, 14] rfl rfl (by decide) (by decide) (jy_runIN (As := []) (b := q19) (st := [.ref q19, .ref h0]) F hN (fun sz => c_X10_init l D k q19 sz ) (jy_cIN F g_c_X5_init_c_X10_init rfl hdX10_init (List.mem_of_getElem? (i := 21) rfl) ((hN _ (List.mem_of_getElem? (i := 3) rfl)).2) (List.mem_of_getElem? (i := 28) rfl) rfl rfl rfl ⟨by decide, by decide⟩) [15] rfl (by decide) rfl rfl (Nat.le_of_ble_eq_true rfl) dX5_init_31 ⟨by decide, by decide⟩) rfl rfl rfl (fun u20 e21 => ?_)
  obtain ⟨q22, q23, q24⟩ := u20
  refine jy_ws (ws' := [(h0, .inr (4, [.int 0, .int 0, .int 0, .int 0, .ref q1, .ref q10, .null])), (q1, .inr (0, [.int 0, .int 0, .int 0, .int 0, .int 0, .int 0, .ref q4, .ref q5, .ref q6, .ref q7, .ref q8, .ref q9])), (q4, .inl (k.2.1, 20, .inl (fun _ => 0))), (q5, .inl (k.2.1, 20, .inl (fun _ => 0))), (q6, .inl (k.2.1, 20, .inl (fun _ => 0))), (q7, .inl (k.2.1, 20, .inl (fun _ => 0))), (q8, .inl (k.2.1, 6, .inl (fun _ => 0))), (q9, .inl (k.2.1, 18, .inl (fun _ => 0))), (q10, .inr (0, [.int 0, .int 0, .int 0, .int 0, .int 0, .int 0, .ref q13, .ref q14, .ref q15, .ref q16, .ref q17, .ref q18])), (q13, .inl (k.2.1, 20, .inl (fun _ => 0))), (q14, .inl (k.2.1, 20, .inl (fun _ => 0))), (q15, .inl (k.2.1, 20, .inl (fun _ => 0))), (q16, .inl (k.2.1, 20, .inl (fun _ => 0))), (q17, .inl (k.2.1, 6, .inl (fun _ => 0))), (q18, .inl (k.2.1, 18, .inl (fun _ => 0))), (q19, .inr (9, [.int (-1), .int 0, .int 0, .int 0, .int 0, .ref q22, .ref q23, .ref q24])), (q22, .inl (k.2.1, 30, .inl (fun _ => 0))), (q23, .inl (k.2.1, 30, .inl (fun _ => 0))), (q24, .inl (k.2.1, 30, .inl (fun _ => 0)))]) rfl ?_
  refine jy_putF (pc' := 37) (C := RX5) (T := TX5) (N := 7) (ci := 4) (ws' := [(h0, .inr (4, [.int 0, .int 0, .int 0, .int 0, .ref q1, .ref q10, .ref q19])), (q1, .inr (0, [.int 0, .int 0, .int 0, .int 0, .int 0, .int 0, .ref q4, .ref q5, .ref q6, .ref q7, .ref q8, .ref q9])), (q4, .inl (k.2.1, 20, .inl (fun _ => 0))), (q5, .inl (k.2.1, 20, .inl (fun _ => 0))), (q6, .inl (k.2.1, 20, .inl (fun _ => 0))), (q7, .inl (k.2.1, 20, .inl (fun _ => 0))), (q8, .inl (k.2.1, 6, .inl (fun _ => 0))), (q9, .inl (k.2.1, 18, .inl (fun _ => 0))), (q10, .inr (0, [.int 0, .int 0, .int 0, .int 0, .int 0, .int 0, .ref q13, .ref q14, .ref q15, .ref q16, .ref q17, .ref q18])), (q13, .inl (k.2.1, 20, .inl (fun _ => 0))), (q14, .inl (k.2.1, 20, .inl (fun _ => 0))), (q15, .inl (k.2.1, 20, .inl (fun _ => 0))), (q16, .inl (k.2.1, 20, .inl (fun _ => 0))), (q17, .inl (k.2.1, 6, .inl (fun _ => 0))), (q18, .inl (k.2.1, 18, .inl (fun _ => 0))), (q19, .inr (9, [.int (-1), .int 0, .int 0, .int 0, .int 0, .ref q22, .ref q23, .ref q24])), (q22, .inl (k.2.1, 30, .inl (fun _ => 0))), (q23, .inl (k.2.1, 30, .inl (fun _ => 0))), (q24, .inl (k.2.1, 30, .inl (fun _ => 0)))]) F hiX5 tyX5 tyX5_ok nmX5 0 rfl rfl 6 (by decide) dX5_init_34 (List.mem_of_getElem? (i := 29) rfl) rfl hnm rfl rfl rfl rfl (Nat.le_of_ble_eq_true rfl) rfl rfl ?_
  refine jy_widen (cells' := 18) (slots' := 330) (by decide) (by decide) ?_
  exact jy_vret F hr hlk (q1, q4, q5, q6, q7, q8, q9, q10, q13, q14, q15, q16, q17, q18, q19, q22, q23, q24) (trivial) [0, 1, 2, 3, 4, 5, 6, 7, 8, 9, 10, 11, 12, 13, 14, 15, 16, 17, 18] rfl (by decide) dX5_init_37
end
