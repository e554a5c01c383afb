/-! constructors -/
theorem upd_if (f : Nat → Int32) (i : Nat) (x : Int32) : upd (fun j => if j < i then x else f j) i x = (fun j => if j < i + 1 then x else f j) := by
  funext j
  unfold upd
  by_cases e1 : j = i
  · rw [if_pos e1, if_pos (by omega)]
  · rw [if_neg e1]
    show (if j < i then x else f j) = _
    by_cases e2 : j < i
    · rw [if_pos e2, if_pos (by omega)]
    · rw [if_neg e2, if_neg (by omega)]
theorem arrV_eq {cA : ClassId} {n : Nat} {f g : Nat → Value} (h : ∀ j, j < n → f j = g j) : arrV cA n f = arrV cA n g := by
  have e : (fun j : Fin n => f j.val) = (fun j : Fin n => g j.val) := funext (fun j => h j.val j.isLt)
  unfold arrV
  rw [e]
theorem jy_qe {p : Program} {l : Launch} {e : Env} {R : Room} {s : State} {m : MethodId} {args : Array Value} {below : List Frame} {meth : Method} {c : Code} {Q : State → Prop} {nL : Nat} {D : va_G} {cl : List vw_C} {A : Nat → Prop} {Z : Heap → List Loc → Prop} {cells slots : Nat} {ws ws' : va_W} {pc : Nat} {lv : List (Nat × Value)} {st : List Value} {a n : Nat} {cA : ClassId} {f g : Nat → Option Nat} (i : Nat) (h : ws[i]? = some (a, .inl (cA, n, .inr (.inr (.inr (.inr f)))))) (hf : ∀ j, j < n → f j = g j) (hw : ws.set i (a, .inl (cA, n, .inr (.inr (.inr (.inr g))))) = ws') (k : JJ p l e R s m args below meth c Q nL D cl A Z cells slots ws' pc lv st) : JJ p l e R s m args below meth c Q nL D cl A Z cells slots ws pc lv st := by
  subst hw
  intro H locs ls hP hD hZ hl
  have hlt : i < ws.length := by
    rcases Nat.lt_or_ge i ws.length with q | q
    · exact q
    · rw [List.getElem?_eq_none q] at h; cases h
  have hk : ∀ (j : Nat) (q : Nat × va_E), (ws.set i (a, .inl (cA, n, .inr (.inr (.inr (.inr g))))))[j]? = some q → ∃ q', ws[j]? = some q' ∧ q'.1 = q.1 ∧ (va_at D cl q' H → va_at D cl q H) := by
    intro j q hq
    by_cases e : i = j
    · subst e
      rw [List.getElem?_set_self hlt] at hq
      cases hq
      refine ⟨_, h, rfl, fun q1 => ?_⟩
      have e1 : vp_cell cA (n, .inr (.inr (.inr (.inr f)))) = vp_cell cA (n, .inr (.inr (.inr (.inr g)))) := arrV_eq (f := fun j => va_rf (f j)) (g := fun j => va_rf (g j)) (fun j hj => congrArg va_rf (hf j hj))
      have q2 : H[a]? = some (vp_cell cA (n, .inr (.inr (.inr (.inr f))))) := q1
      rw [e1] at q2
      exact q2
    · rw [List.getElem?_set_ne e] at hq
      exact ⟨q, hq, rfl, id⟩
  refine k H locs ls (fun j q hq => ?_) ⟨fun i1 j1 p1 q1 h1 h2 h3 => ?_, fun j q hq => ?_⟩ hZ hl
  · obtain ⟨q', h1, -, h2⟩ := hk j q hq
    exact h2 (hP j q' h1)
  · obtain ⟨p', a1, a2, -⟩ := hk i1 p1 h1
    obtain ⟨q', b1, b2, -⟩ := hk j1 q1 h2
    exact hD.1 i1 j1 p' q' a1 b1 (by rw [a2, b2, h3])
  · obtain ⟨q', a1, a2, -⟩ := hk j q hq
    rw [← a2]; exact hD.2 j q' a1

theorem hdX10_init : yX10_init.cls ≠ "java/lang/invoke/MethodHandle" ∧ yX10_init.cls ≠ "java/lang/invoke/VarHandle" ∧ (parseMethodDescriptor yX10_init.desc).map (fun d => d.parameters.length) = some 0 := by decide +kernel
theorem dX10_init_0 : decode cX10_init 0 = .ok (.aload_n 0, 1) := by decide +kernel
theorem dX10_init_1 : decode cX10_init 1 = .ok (.invokespecial 3, 3) := by decide +kernel
theorem dX10_init_4 : decode cX10_init 4 = .ok (.aload_n 0, 1) := by decide +kernel
theorem dX10_init_5 : decode cX10_init 5 = .ok (.iconst (-1), 1) := by decide +kernel
theorem dX10_init_6 : decode cX10_init 6 = .ok (.putfield 9, 3) := by decide +kernel
theorem dX10_init_9 : decode cX10_init 9 = .ok (.aload_n 0, 1) := by decide +kernel
theorem dX10_init_10 : decode cX10_init 10 = .ok (.bipush 30, 2) := by decide +kernel
theorem dX10_init_12 : decode cX10_init 12 = .ok (.newarray .int, 2) := by decide +kernel
theorem dX10_init_14 : decode cX10_init 14 = .ok (.putfield 15, 3) := by decide +kernel
theorem dX10_init_17 : decode cX10_init 17 = .ok (.aload_n 0, 1) := by decide +kernel
theorem dX10_init_18 : decode cX10_init 18 = .ok (.bipush 30, 2) := by decide +kernel
theorem dX10_init_20 : decode cX10_init 20 = .ok (.newarray .int, 2) := by decide +kernel
theorem dX10_init_22 : decode cX10_init 22 = .ok (.putfield 19, 3) := by decide +kernel
theorem dX10_init_25 : decode cX10_init 25 = .ok (.aload_n 0, 1) := by decide +kernel
theorem dX10_init_26 : decode cX10_init 26 = .ok (.bipush 30, 2) := by decide +kernel
theorem dX10_init_28 : decode cX10_init 28 = .ok (.newarray .int, 2) := by decide +kernel
theorem dX10_init_30 : decode cX10_init 30 = .ok (.putfield 22, 3) := by decide +kernel
theorem dX10_init_33 : decode cX10_init 33 = .ok (.return_, 1) := by decide +kernel
def ws_b_X10_init : List Cond := .code yX10_init cX10_init 1 none :: ([.methodLink "NestedChecker$Walk" 3 ⟨"java/lang/Object", "<init>", "()V"⟩, .instanceMethod ⟨"java/lang/Object", "<init>", "()V"⟩, .code ⟨"java/lang/Object", "<init>", "()V"⟩ object_method_1_code 1 none, .fieldLink "NestedChecker$Walk" 9 "NestedChecker$Walk" "watched" "I", .arrayClass .int, .fieldLink "NestedChecker$Walk" 15 "NestedChecker$Walk" "belowStates" "[I", .fieldLink "NestedChecker$Walk" 19 "NestedChecker$Walk" "belowPairs" "[I", .fieldLink "NestedChecker$Walk" 22 "NestedChecker$Walk" "belowCall" "[I"] ++ wsX100)
set_option maxHeartbeats 4000000 in
set_option maxRecDepth 100000 in
theorem b_X10_init (l : Launch) (D : va_G) (k : jK) (h0 : Nat) (sz : Nat)  : Met l yX10_init ws_b_X10_init ({ frames := 1, cells := 3, slots := 90, locals := 12 }) (jy_P [.ref h0] D vwCl (jT k) jW [(h0, .inr (9, [.int 0, .int 0, .int 0, .int 0, .int 0, .null, .null, .null]))] sz) (va_Qv (fun (u : Nat × Nat × Nat) => True) (jy_B D vwCl (va_A [(h0, .inr (9, [.int 0, .int 0, .int 0, .int 0, .int 0, .null, .null, .null]))] sz) (fun (u : Nat × Nat × Nat) => [(h0, .inr (9, [.int (-1), .int 0, .int 0, .int 0, .int 0, .ref u.1, .ref u.2.1, .ref u.2.2])), (u.1, .inl (k.2.1, 30, .inl (fun _ => 0))), (u.2.1, .inl (k.2.1, 30, .inl (fun _ => 0))), (u.2.2, .inl (k.2.1, 30, .inl (fun _ => 0)))])) (va_A [(h0, .inr (9, [.int 0, .int 0, .int 0, .int 0, .int 0, .null, .null, .null]))] sz)) 3 90 (va_A [(h0, .inr (9, [.int 0, .int 0, .int 0, .int 0, .int 0, .null, .null, .null]))] sz) := by
  refine jy_met (cc := cX10_init) (maxL := 1) (ret := none) (lv := [(0, .ref h0)]) (by decide) rfl (Nat.le_of_ble_eq_true rfl) rfl ?_
  intro p e s m below meth c F hr hlk hnm hN hA
  have hiX10 : ∀ w ∈ u_ws RX10 TX10 8, w ∈ ws_b_X10_init := fun w hw => List.mem_cons_of_mem _ (List.mem_append_right _ hw)
  refine jy_aload_n (pc' := 1) F 0 dX10_init_0 rfl rfl rfl ?_
  refine jy_objInit (pc' := 4) F dX10_init_1 (List.mem_of_getElem? (i := 1) rfl) (List.mem_of_getElem? (i := 2) rfl) (List.mem_of_getElem? (i := 3) rfl) (by decide) (Nat.le_of_ble_eq_true rfl) rfl ?_
  refine jy_aload_n (pc' := 5) F 0 dX10_init_4 rfl rfl rfl ?_
  refine jy_iconst (pc' := 6) (v := (-1)) F dX10_init_5 (by decide) rfl ?_
  refine jy_put (pc' := 9) (C := RX10) (T := TX10) (N := 8) (ci := 9) (ws' := [(h0, .inr (9, [.int (-1), .int 0, .int 0, .int 0, .int 0, .null, .null, .null]))]) F hiX10 tyX10 tyX10_ok nmX10 0 rfl rfl 0 (by decide) dX10_init_6 (List.mem_of_getElem? (i := 4) rfl) rfl rfl rfl rfl (Nat.le_of_ble_eq_true rfl) rfl rfl ?_
  refine jy_aload_n (pc' := 10) F 0 dX10_init_9 rfl rfl rfl ?_
  refine jy_bipush (pc' := 12) (v := 30) F dX10_init_10 (by decide) rfl ?_
  refine jy_newa (pc' := 14) (N' := 30) (a0 := (30, .inl (fun _ => 0))) (cells' := 1) (slots' := 30) (ws' := fun q_1 => [(h0, .inr (9, [.int (-1), .int 0, .int 0, .int 0, .int 0, .null, .null, .null])), (q_1, .inl (k.2.1, 30, .inl (fun _ => 0)))]) F hA 1 rfl rfl dX10_init_12 (List.mem_of_getElem? (i := 5) rfl) (fun _ => rfl) (by decide) (by decide) (by decide) rfl rfl (by decide) (by decide) (fun _ => rfl) rfl (fun q_1 => ?_)
  refine jy_putF (pc' := 17) (C := RX10) (T := TX10) (N := 8) (ci := 9) (ws' := [(h0, .inr (9, [.int (-1), .int 0, .int 0, .int 0, .int 0, .ref q_1, .null, .null])), (q_1, .inl (k.2.1, 30, .inl (fun _ => 0)))]) F hiX10 tyX10 tyX10_ok nmX10 0 rfl rfl 5 (by decide) dX10_init_14 (List.mem_of_getElem? (i := 6) rfl) rfl hnm rfl rfl rfl rfl (Nat.le_of_ble_eq_true rfl) rfl rfl ?_
  refine jy_aload_n (pc' := 18) F 0 dX10_init_17 rfl rfl rfl ?_
  refine jy_bipush (pc' := 20) (v := 30) F dX10_init_18 (by decide) rfl ?_
  refine jy_newa (pc' := 22) (N' := 30) (a0 := (30, .inl (fun _ => 0))) (cells' := 2) (slots' := 60) (ws' := fun q_2 => [(h0, .inr (9, [.int (-1), .int 0, .int 0, .int 0, .int 0, .ref q_1, .null, .null])), (q_1, .inl (k.2.1, 30, .inl (fun _ => 0))), (q_2, .inl (k.2.1, 30, .inl (fun _ => 0)))]) F hA 1 rfl rfl dX10_init_20 (List.mem_of_getElem? (i := 5) rfl) (fun _ => rfl) (by decide) (by decide) (by decide) rfl rfl (by decide) (by decide) (fun _ => rfl) rfl (fun q_2 => ?_)
  refine jy_putF (pc' := 25) (C := RX10) (T := TX10) (N := 8) (ci := 9) (ws' := [(h0, .inr (9, [.int (-1), .int 0, .int 0, .int 0, .int 0, .ref q_1, .ref q_2, .null])), (q_1, .inl (k.2.1, 30, .inl (fun _ => 0))), (q_2, .inl (k.2.1, 30, .inl (fun _ => 0)))]) F hiX10 tyX10 tyX10_ok nmX10 0 rfl rfl 6 (by decide) dX10_init_22 (List.mem_of_getElem? (i := 7) rfl) rfl hnm rfl rfl rfl rfl (Nat.le_of_ble_eq_true rfl) rfl rfl ?_
  refine jy_aload_n (pc' := 26) F 0 dX10_init_25 rfl rfl rfl ?_
  refine jy_bipush (pc' := 28) (v := 30) F dX10_init_26 (by decide) rfl ?_
  refine jy_newa (pc' := 30) (N' := 30) (a0 := (30, .inl (fun _ => 0))) (cells' := 3) (slots' := 90) (ws' := fun q_3 => [(h0, .inr (9, [.int (-1), .int 0, .int 0, .int 0, .int 0, .ref q_1, .ref q_2, .null])), (q_1, .inl (k.2.1, 30, .inl (fun _ => 0))), (q_2, .inl (k.2.1, 30, .inl (fun _ => 0))), (q_3, .inl (k.2.1, 30, .inl (fun _ => 0)))]) F hA 1 rfl rfl dX10_init_28 (List.mem_of_getElem? (i := 5) rfl) (fun _ => rfl) (by decide) (by decide) (by decide) rfl rfl (by decide) (by decide) (fun _ => rfl) rfl (fun q_3 => ?_)
  refine jy_putF (pc' := 33) (C := RX10) (T := TX10) (N := 8) (ci := 9) (ws' := [(h0, .inr (9, [.int (-1), .int 0, .int 0, .int 0, .int 0, .ref q_1, .ref q_2, .ref q_3])), (q_1, .inl (k.2.1, 30, .inl (fun _ => 0))), (q_2, .inl (k.2.1, 30, .inl (fun _ => 0))), (q_3, .inl (k.2.1, 30, .inl (fun _ => 0)))]) F hiX10 tyX10 tyX10_ok nmX10 0 rfl rfl 7 (by decide) dX10_init_30 (List.mem_of_getElem? (i := 8) rfl) rfl hnm rfl rfl rfl rfl (Nat.le_of_ble_eq_true rfl) rfl rfl ?_
  refine jy_widen (cells' := 3) (slots' := 90) (by decide) (by decide) ?_
  exact jy_vret F hr hlk (q_1, q_2, q_3) (trivial) [0, 1, 2, 3] rfl (by decide) dX10_init_33
theorem hdX0_init : yX0_init.cls ≠ "java/lang/invoke/MethodHandle" ∧ yX0_init.cls ≠ "java/lang/invoke/VarHandle" ∧ (parseMethodDescriptor yX0_init.desc).map (fun d => d.parameters.length) = some 0 := by decide +kernel
theorem dX0_init_0 : decode cX0_init 0 = .ok (.aload_n 0, 1) := by decide +kernel
theorem dX0_init_1 : decode cX0_init 1 = .ok (.invokespecial 3, 3) := by decide +kernel
theorem dX0_init_4 : decode cX0_init 4 = .ok (.aload_n 0, 1) := by decide +kernel
theorem dX0_init_5 : decode cX0_init 5 = .ok (.bipush 20, 2) := by decide +kernel
theorem dX0_init_7 : decode cX0_init 7 = .ok (.newarray .int, 2) := by decide +kernel
theorem dX0_init_9 : decode cX0_init 9 = .ok (.putfield 9, 3) := by decide +kernel
theorem dX0_init_12 : decode cX0_init 12 = .ok (.aload_n 0, 1) := by decide +kernel
theorem dX0_init_13 : decode cX0_init 13 = .ok (.bipush 20, 2) := by decide +kernel
theorem dX0_init_15 : decode cX0_init 15 = .ok (.newarray .int, 2) := by decide +kernel
theorem dX0_init_17 : decode cX0_init 17 = .ok (.putfield 15, 3) := by decide +kernel
theorem dX0_init_20 : decode cX0_init 20 = .ok (.aload_n 0, 1) := by decide +kernel
theorem dX0_init_21 : decode cX0_init 21 = .ok (.bipush 20, 2) := by decide +kernel
theorem dX0_init_23 : decode cX0_init 23 = .ok (.newarray .int, 2) := by decide +kernel
theorem dX0_init_25 : decode cX0_init 25 = .ok (.putfield 18, 3) := by decide +kernel
theorem dX0_init_28 : decode cX0_init 28 = .ok (.aload_n 0, 1) := by decide +kernel
theorem dX0_init_29 : decode cX0_init 29 = .ok (.bipush 20, 2) := by decide +kernel
theorem dX0_init_31 : decode cX0_init 31 = .ok (.newarray .int, 2) := by decide +kernel
theorem dX0_init_33 : decode cX0_init 33 = .ok (.putfield 21, 3) := by decide +kernel
theorem dX0_init_36 : decode cX0_init 36 = .ok (.aload_n 0, 1) := by decide +kernel
theorem dX0_init_37 : decode cX0_init 37 = .ok (.bipush 6, 2) := by decide +kernel
theorem dX0_init_39 : decode cX0_init 39 = .ok (.newarray .int, 2) := by decide +kernel
theorem dX0_init_41 : decode cX0_init 41 = .ok (.putfield 24, 3) := by decide +kernel
theorem dX0_init_44 : decode cX0_init 44 = .ok (.aload_n 0, 1) := by decide +kernel
theorem dX0_init_45 : decode cX0_init 45 = .ok (.bipush 18, 2) := by decide +kernel
theorem dX0_init_47 : decode cX0_init 47 = .ok (.newarray .int, 2) := by decide +kernel
theorem dX0_init_49 : decode cX0_init 49 = .ok (.putfield 27, 3) := by decide +kernel
theorem dX0_init_52 : decode cX0_init 52 = .ok (.return_, 1) := by decide +kernel
def ws_b_X0_init : List Cond := .code yX0_init cX0_init 1 none :: ([.methodLink "NestedChecker$Automaton" 3 ⟨"java/lang/Object", "<init>", "()V"⟩, .instanceMethod ⟨"java/lang/Object", "<init>", "()V"⟩, .code ⟨"java/lang/Object", "<init>", "()V"⟩ object_method_1_code 1 none, .arrayClass .int, .fieldLink "NestedChecker$Automaton" 9 "NestedChecker$Automaton" "letter" "[I", .fieldLink "NestedChecker$Automaton" 15 "NestedChecker$Automaton" "from" "[I", .fieldLink "NestedChecker$Automaton" 18 "NestedChecker$Automaton" "to" "[I", .fieldLink "NestedChecker$Automaton" 21 "NestedChecker$Automaton" "symbol" "[I", .fieldLink "NestedChecker$Automaton" 24 "NestedChecker$Automaton" "step" "[I", .fieldLink "NestedChecker$Automaton" 27 "NestedChecker$Automaton" "stacked" "[I"] ++ wsX00)
set_option maxHeartbeats 4000000 in
set_option maxRecDepth 100000 in
theorem b_X0_init (l : Launch) (D : va_G) (k : jK) (h0 : Nat) (sz : Nat)  : Met l yX0_init ws_b_X0_init ({ frames := 1, cells := 6, slots := 104, locals := 12 }) (jy_P [.ref h0] D vwCl (jT k) jW [(h0, .inr (0, [.int 0, .int 0, .int 0, .int 0, .int 0, .int 0, .null, .null, .null, .null, .null, .null]))] sz) (va_Qv (fun (u : Nat × Nat × Nat × Nat × Nat × Nat) => True) (jy_B D vwCl (va_A [(h0, .inr (0, [.int 0, .int 0, .int 0, .int 0, .int 0, .int 0, .null, .null, .null, .null, .null, .null]))] sz) (fun (u : Nat × Nat × Nat × Nat × Nat × Nat) => [(h0, .inr (0, [.int 0, .int 0, .int 0, .int 0, .int 0, .int 0, .ref u.1, .ref u.2.1, .ref u.2.2.1, .ref u.2.2.2.1, .ref u.2.2.2.2.1, .ref u.2.2.2.2.2])), (u.1, .inl (k.2.1, 20, .inl (fun _ => 0))), (u.2.1, .inl (k.2.1, 20, .inl (fun _ => 0))), (u.2.2.1, .inl (k.2.1, 20, .inl (fun _ => 0))), (u.2.2.2.1, .inl (k.2.1, 20, .inl (fun _ => 0))), (u.2.2.2.2.1, .inl (k.2.1, 6, .inl (fun _ => 0))), (u.2.2.2.2.2, .inl (k.2.1, 18, .inl (fun _ => 0)))])) (va_A [(h0, .inr (0, [.int 0, .int 0, .int 0, .int 0, .int 0, .int 0, .null, .null, .null, .null, .null, .null]))] sz)) 6 104 (va_A [(h0, .inr (0, [.int 0, .int 0, .int 0, .int 0, .int 0, .int 0, .null, .null, .null, .null, .null, .null]))] sz) := by
  refine jy_met (cc := cX0_init) (maxL := 1) (ret := none) (lv := [(0, .ref h0)]) (by decide) rfl (Nat.le_of_ble_eq_true rfl) rfl ?_
  intro p e s m below meth c F hr hlk hnm hN hA
  have hiX0 : ∀ w ∈ u_ws RX0 TX0 12, w ∈ ws_b_X0_init := fun w hw => List.mem_cons_of_mem _ (List.mem_append_right _ hw)
  refine jy_aload_n (pc' := 1) F 0 dX0_init_0 rfl rfl rfl ?_
  refine jy_objInit (pc' := 4) F dX0_init_1 (List.mem_of_getElem? (i := 1) rfl) (List.mem_of_getElem? (i := 2) rfl) (List.mem_of_getElem? (i := 3) rfl) (by decide) (Nat.le_of_ble_eq_true rfl) rfl ?_
  refine jy_aload_n (pc' := 5) F 0 dX0_init_4 rfl rfl rfl ?_
  refine jy_bipush (pc' := 7) (v := 20) F dX0_init_5 (by decide) rfl ?_
  refine jy_newa (pc' := 9) (N' := 20) (a0 := (20, .inl (fun _ => 0))) (cells' := 1) (slots' := 20) (ws' := fun q_1 => [(h0, .inr (0, [.int 0, .int 0, .int 0, .int 0, .int 0, .int 0, .null, .null, .null, .null, .null, .null])), (q_1, .inl (k.2.1, 20, .inl (fun _ => 0)))]) F hA 1 rfl rfl dX0_init_7 (List.mem_of_getElem? (i := 4) rfl) (fun _ => rfl) (by decide) (by decide) (by decide) rfl rfl (by decide) (by decide) (fun _ => rfl) rfl (fun q_1 => ?_)
  refine jy_putF (pc' := 12) (C := RX0) (T := TX0) (N := 12) (ci := 0) (ws' := [(h0, .inr (0, [.int 0, .int 0, .int 0, .int 0, .int 0, .int 0, .ref q_1, .null, .null, .null, .null, .null])), (q_1, .inl (k.2.1, 20, .inl (fun _ => 0)))]) F hiX0 tyX0 tyX0_ok nmX0 0 rfl rfl 6 (by decide) dX0_init_9 (List.mem_of_getElem? (i := 5) rfl) rfl hnm rfl rfl rfl rfl (Nat.le_of_ble_eq_true rfl) rfl rfl ?_
  refine jy_aload_n (pc' := 13) F 0 dX0_init_12 rfl rfl rfl ?_
  refine jy_bipush (pc' := 15) (v := 20) F dX0_init_13 (by decide) rfl ?_
  refine jy_newa (pc' := 17) (N' := 20) (a0 := (20, .inl (fun _ => 0))) (cells' := 2) (slots' := 40) (ws' := fun q_2 => [(h0, .inr (0, [.int 0, .int 0, .int 0, .int 0, .int 0, .int 0, .ref q_1, .null, .null, .null, .null, .null])), (q_1, .inl (k.2.1, 20, .inl (fun _ => 0))), (q_2, .inl (k.2.1, 20, .inl (fun _ => 0)))]) F hA 1 rfl rfl dX0_init_15 (List.mem_of_getElem? (i := 4) rfl) (fun _ => rfl) (by decide) (by decide) (by decide) rfl rfl (by decide) (by decide) (fun _ => rfl) rfl (fun q_2 => ?_)
  refine jy_putF (pc' := 20) (C := RX0) (T := TX0) (N := 12) (ci := 0) (ws' := [(h0, .inr (0, [.int 0, .int 0, .int 0, .int 0, .int 0, .int 0, .ref q_1, .ref q_2, .null, .null, .null, .null])), (q_1, .inl (k.2.1, 20, .inl (fun _ => 0))), (q_2, .inl (k.2.1, 20, .inl (fun _ => 0)))]) F hiX0 tyX0 tyX0_ok nmX0 0 rfl rfl 7 (by decide) dX0_init_17 (List.mem_of_getElem? (i := 6) rfl) rfl hnm rfl rfl rfl rfl (Nat.le_of_ble_eq_true rfl) rfl rfl ?_
  refine jy_aload_n (pc' := 21) F 0 dX0_init_20 rfl rfl rfl ?_
  refine jy_bipush (pc' := 23) (v := 20) F dX0_init_21 (by decide) rfl ?_
  refine jy_newa (pc' := 25) (N' := 20) (a0 := (20, .inl (fun _ => 0))) (cells' := 3) (slots' := 60) (ws' := fun q_3 => [(h0, .inr (0, [.int 0, .int 0, .int 0, .int 0, .int 0, .int 0, .ref q_1, .ref q_2, .null, .null, .null, .null])), (q_1, .inl (k.2.1, 20, .inl (fun _ => 0))), (q_2, .inl (k.2.1, 20, .inl (fun _ => 0))), (q_3, .inl (k.2.1, 20, .inl (fun _ => 0)))]) F hA 1 rfl rfl dX0_init_23 (List.mem_of_getElem? (i := 4) rfl) (fun _ => rfl) (by decide) (by decide) (by decide) rfl rfl (by decide) (by decide) (fun _ => rfl) rfl (fun q_3 => ?_)
  refine jy_putF (pc' := 28) (C := RX0) (T := TX0) (N := 12) (ci := 0) (ws' := [(h0, .inr (0, [.int 0, .int 0, .int 0, .int 0, .int 0, .int 0, .ref q_1, .ref q_2, .ref q_3, .null, .null, .null])), (q_1, .inl (k.2.1, 20, .inl (fun _ => 0))), (q_2, .inl (k.2.1, 20, .inl (fun _ => 0))), (q_3, .inl (k.2.1, 20, .inl (fun _ => 0)))]) F hiX0 tyX0 tyX0_ok nmX0 0 rfl rfl 8 (by decide) dX0_init_25 (List.mem_of_getElem? (i := 7) rfl) rfl hnm rfl rfl rfl rfl (Nat.le_of_ble_eq_true rfl) rfl rfl ?_
  refine jy_aload_n (pc' := 29) F 0 dX0_init_28 rfl rfl rfl ?_
  refine jy_bipush (pc' := 31) (v := 20) F dX0_init_29 (by decide) rfl ?_
  refine jy_newa (pc' := 33) (N' := 20) (a0 := (20, .inl (fun _ => 0))) (cells' := 4) (slots' := 80) (ws' := fun q_4 => [(h0, .inr (0, [.int 0, .int 0, .int 0, .int 0, .int 0, .int 0, .ref q_1, .ref q_2, .ref q_3, .null, .null, .null])), (q_1, .inl (k.2.1, 20, .inl (fun _ => 0))), (q_2, .inl (k.2.1, 20, .inl (fun _ => 0))), (q_3, .inl (k.2.1, 20, .inl (fun _ => 0))), (q_4, .inl (k.2.1, 20, .inl (fun _ => 0)))]) F hA 1 rfl rfl dX0_init_31 (List.mem_of_getElem? (i := 4) rfl) (fun _ => rfl) (by decide) (by decide) (by decide) rfl rfl (by decide) (by decide) (fun _ => rfl) rfl (fun q_4 => ?_)
  refine jy_putF (pc' := 36) (C := RX0) (T := TX0) (N := 12) (ci := 0) (ws' := [(h0, .inr (0, [.int 0, .int 0, .int 0, .int 0, .int 0, .int 0, .ref q_1, .ref q_2, .ref q_3, .ref q_4, .null, .null])), (q_1, .inl (k.2.1, 20, .inl (fun _ => 0))), (q_2, .inl (k.2.1, 20, .inl (fun _ => 0))), (q_3, .inl (k.2.1, 20, .inl (fun _ => 0))), (q_4, .inl (k.2.1, 20, .inl (fun _ => 0)))]) F hiX0 tyX0 tyX0_ok nmX0 0 rfl rfl 9 (by decide) dX0_init_33 (List.mem_of_getElem? (i := 8) rfl) rfl hnm rfl rfl rfl rfl (Nat.le_of_ble_eq_true rfl) rfl rfl ?_
  refine jy_aload_n (pc' := 37) F 0 dX0_init_36 rfl rfl rfl ?_
  refine jy_bipush (pc' := 39) (v := 6) F dX0_init_37 (by decide) rfl ?_
  refine jy_newa (pc' := 41) (N' := 6) (a0 := (6, .inl (fun _ => 0))) (cells' := 5) (slots' := 86) (ws' := fun q_5 => [(h0, .inr (0, [.int 0, .int 0, .int 0, .int 0, .int 0, .int 0, .ref q_1, .ref q_2, .ref q_3, .ref q_4, .null, .null])), (q_1, .inl (k.2.1, 20, .inl (fun _ => 0))), (q_2, .inl (k.2.1, 20, .inl (fun _ => 0))), (q_3, .inl (k.2.1, 20, .inl (fun _ => 0))), (q_4, .inl (k.2.1, 20, .inl (fun _ => 0))), (q_5, .inl (k.2.1, 6, .inl (fun _ => 0)))]) F hA 1 rfl rfl dX0_init_39 (List.mem_of_getElem? (i := 4) rfl) (fun _ => rfl) (by decide) (by decide) (by decide) rfl rfl (by decide) (by decide) (fun _ => rfl) rfl (fun q_5 => ?_)
  refine jy_putF (pc' := 44) (C := RX0) (T := TX0) (N := 12) (ci := 0) (ws' := [(h0, .inr (0, [.int 0, .int 0, .int 0, .int 0, .int 0, .int 0, .ref q_1, .ref q_2, .ref q_3, .ref q_4, .ref q_5, .null])), (q_1, .inl (k.2.1, 20, .inl (fun _ => 0))), (q_2, .inl (k.2.1, 20, .inl (fun _ => 0))), (q_3, .inl (k.2.1, 20, .inl (fun _ => 0))), (q_4, .inl (k.2.1, 20, .inl (fun _ => 0))), (q_5, .inl (k.2.1, 6, .inl (fun _ => 0)))]) F hiX0 tyX0 tyX0_ok nmX0 0 rfl rfl 10 (by decide) dX0_init_41 (List.mem_of_getElem? (i := 9) rfl) rfl hnm rfl rfl rfl rfl (Nat.le_of_ble_eq_true rfl) rfl rfl ?_
  refine jy_aload_n (pc' := 45) F 0 dX0_init_44 rfl rfl rfl ?_
  refine jy_bipush (pc' := 47) (v := 18) F dX0_init_45 (by decide) rfl ?_
  refine jy_newa (pc' := 49) (N' := 18) (a0 := (18, .inl (fun _ => 0))) (cells' := 6) (slots' := 104) (ws' := fun q_6 => [(h0, .inr (0, [.int 0, .int 0, .int 0, .int 0, .int 0, .int 0, .ref q_1, .ref q_2, .ref q_3, .ref q_4, .ref q_5, .null])), (q_1, .inl (k.2.1, 20, .inl (fun _ => 0))), (q_2, .inl (k.2.1, 20, .inl (fun _ => 0))), (q_3, .inl (k.2.1, 20, .inl (fun _ => 0))), (q_4, .inl (k.2.1, 20, .inl (fun _ => 0))), (q_5, .inl (k.2.1, 6, .inl (fun _ => 0))), (q_6, .inl (k.2.1, 18, .inl (fun _ => 0)))]) F hA 1 rfl rfl dX0_init_47 (List.mem_of_getElem? (i := 4) rfl) (fun _ => rfl) (by decide) (by decide) (by decide) rfl rfl (by decide) (by decide) (fun _ => rfl) rfl (fun q_6 => ?_)
  refine jy_putF (pc' := 52) (C := RX0) (T := TX0) (N := 12) (ci := 0) (ws' := [(h0, .inr (0, [.int 0, .int 0, .int 0, .int 0, .int 0, .int 0, .ref q_1, .ref q_2, .ref q_3, .ref q_4, .ref q_5, .ref q_6])), (q_1, .inl (k.2.1, 20, .inl (fun _ => 0))), (q_2, .inl (k.2.1, 20, .inl (fun _ => 0))), (q_3, .inl (k.2.1, 20, .inl (fun _ => 0))), (q_4, .inl (k.2.1, 20, .inl (fun _ => 0))), (q_5, .inl (k.2.1, 6, .inl (fun _ => 0))), (q_6, .inl (k.2.1, 18, .inl (fun _ => 0)))]) F hiX0 tyX0 tyX0_ok nmX0 0 rfl rfl 11 (by decide) dX0_init_49 (List.mem_of_getElem? (i := 10) rfl) rfl hnm rfl rfl rfl rfl (Nat.le_of_ble_eq_true rfl) rfl rfl ?_
  refine jy_widen (cells' := 6) (slots' := 104) (by decide) (by decide) ?_
  exact jy_vret F hr hlk (q_1, q_2, q_3, q_4, q_5, q_6) (trivial) [0, 1, 2, 3, 4, 5, 6] rfl (by decide) dX0_init_52
theorem hdX5_init : yX5_init.cls ≠ "java/lang/invoke/MethodHandle" ∧ yX5_init.cls ≠ "java/lang/invoke/VarHandle" ∧ (parseMethodDescriptor yX5_init.desc).map (fun d => d.parameters.length) = some 0 := by decide +kernel
theorem dX5_init_0 : decode cX5_init 0 = .ok (.aload_n 0, 1) := by decide +kernel
theorem dX5_init_1 : decode cX5_init 1 = .ok (.invokespecial 3, 3) := by decide +kernel
theorem dX5_init_4 : decode cX5_init 4 = .ok (.aload_n 0, 1) := by decide +kernel
theorem dX5_init_5 : decode cX5_init 5 = .ok (.new 9, 3) := by decide +kernel
theorem dX5_init_8 : decode cX5_init 8 = .ok (.dup, 1) := by decide +kernel
theorem dX5_init_9 : decode cX5_init 9 = .ok (.invokespecial 11, 3) := by decide +kernel
theorem dX5_init_12 : decode cX5_init 12 = .ok (.putfield 12, 3) := by decide +kernel
theorem dX5_init_15 : decode cX5_init 15 = .ok (.aload_n 0, 1) := by decide +kernel
theorem dX5_init_16 : decode cX5_init 16 = .ok (.new 9, 3) := by decide +kernel
theorem dX5_init_19 : decode cX5_init 19 = .ok (.dup, 1) := by decide +kernel
theorem dX5_init_20 : decode cX5_init 20 = .ok (.invokespecial 11, 3) := by decide +kernel
theorem dX5_init_23 : decode cX5_init 23 = .ok (.putfield 18, 3) := by decide +kernel
theorem dX5_init_26 : decode cX5_init 26 = .ok (.aload_n 0, 1) := by decide +kernel
theorem dX5_init_27 : decode cX5_init 27 = .ok (.new 21, 3) := by decide +kernel
theorem dX5_init_30 : decode cX5_init 30 = .ok (.dup, 1) := by decide +kernel
theorem dX5_init_31 : decode cX5_init 31 = .ok (.invokespecial 23, 3) := by decide +kernel
theorem dX5_init_34 : decode cX5_init 34 = .ok (.putfield 24, 3) := by decide +kernel
theorem dX5_init_37 : decode cX5_init 37 = .ok (.return_, 1) := by decide +kernel
def ws_b_X5_init : List Cond := .code yX5_init cX5_init 1 none :: ([.methodLink "NestedChecker$Setting" 3 ⟨"java/lang/Object", "<init>", "()V"⟩, .instanceMethod ⟨"java/lang/Object", "<init>", "()V"⟩, .code ⟨"java/lang/Object", "<init>", "()V"⟩ object_method_1_code 1 none, .classLink "NestedChecker$Setting" 9 "NestedChecker$Automaton", .instantiable "NestedChecker$Automaton" 12, .initialized "NestedChecker$Automaton", .code ⟨"NestedChecker$Automaton", "<init>", "()V"⟩ cX0_init 1 none, .methodLink "NestedChecker$Automaton" 3 ⟨"java/lang/Object", "<init>", "()V"⟩, .arrayClass .int, .fieldLink "NestedChecker$Automaton" 9 "NestedChecker$Automaton" "letter" "[I", .fieldLink "NestedChecker$Automaton" 15 "NestedChecker$Automaton" "from" "[I", .fieldLink "NestedChecker$Automaton" 18 "NestedChecker$Automaton" "to" "[I", .fieldLink "NestedChecker$Automaton" 21 "NestedChecker$Automaton" "symbol" "[I", .fieldLink "NestedChecker$Automaton" 24 "NestedChecker$Automaton" "step" "[I", .fieldLink "NestedChecker$Automaton" 27 "NestedChecker$Automaton" "stacked" "[I", .instanceMethod ⟨"NestedChecker$Automaton", "<init>", "()V"⟩, .fieldLink "NestedChecker$Setting" 12 "NestedChecker$Setting" "first" "LNestedChecker$Automaton;", .fieldLink "NestedChecker$Setting" 18 "NestedChecker$Setting" "second" "LNestedChecker$Automaton;", .classLink "NestedChecker$Setting" 21 "NestedChecker$Walk", .instantiable "NestedChecker$Walk" 8, .initialized "NestedChecker$Walk", .code ⟨"NestedChecker$Walk", "<init>", "()V"⟩ cX10_init 1 none, .methodLink "NestedChecker$Walk" 3 ⟨"java/lang/Object", "<init>", "()V"⟩, .fieldLink "NestedChecker$Walk" 9 "NestedChecker$Walk" "watched" "I", .fieldLink "NestedChecker$Walk" 15 "NestedChecker$Walk" "belowStates" "[I", .fieldLink "NestedChecker$Walk" 19 "NestedChecker$Walk" "belowPairs" "[I", .fieldLink "NestedChecker$Walk" 22 "NestedChecker$Walk" "belowCall" "[I", .instanceMethod ⟨"NestedChecker$Walk", "<init>", "()V"⟩, .fieldLink "NestedChecker$Setting" 24 "NestedChecker$Setting" "monitor" "LNestedChecker$Walk;"] ++ wsX00 ++ wsX50 ++ wsX100)
set_option maxRecDepth 20000 in
theorem g_b_X5_init_b_X0_init : GoodIn ws_b_X5_init ws_b_X0_init := goodIn_r _ [7, 8, 2, 3, 9, 10, 11, 12, 13, 14, 15, 30, 31, 32, 33, 34, 35, 36, 37, 38, 39, 40, 41] (by decide +kernel) (by decide +kernel)
set_option maxRecDepth 20000 in
theorem g_b_X5_init_b_X10_init : GoodIn ws_b_X5_init ws_b_X10_init := goodIn_r _ [22, 23, 2, 3, 24, 9, 25, 26, 27, 49, 50, 51, 52, 53, 54, 55, 56] (by decide +kernel) (by decide +kernel)
set_option maxHeartbeats 4000000 in
set_option maxRecDepth 100000 in
theorem b_X5_init (l : Launch) (D : va_G) (k : jK) (h0 : Nat) (sz : Nat)  : Met l yX5_init ws_b_X5_init ({ frames := 2, cells := 18, slots := 330, locals := 32 }) (jy_P [.ref h0] D vwCl (jT k) jW [(h0, .inr (4, [.int 0, .int 0, .int 0, .int 0, .null, .null, .null]))] sz) (va_Qv (fun (u : Nat × Nat × Nat × Nat × Nat × Nat × Nat × Nat × Nat × Nat × Nat × Nat × Nat × Nat × Nat × Nat × Nat × Nat) => True) (jy_B D vwCl (va_A [(h0, .inr (4, [.int 0, .int 0, .int 0, .int 0, .null, .null, .null]))] sz) (fun (u : Nat × Nat × Nat × Nat × Nat × Nat × Nat × Nat × Nat × Nat × Nat × Nat × Nat × Nat × Nat × Nat × Nat × Nat) => [(h0, .inr (4, [.int 0, .int 0, .int 0, .int 0, .ref u.1, .ref u.2.1, .ref u.2.2.1])), (u.1, .inr (0, [.int 0, .int 0, .int 0, .int 0, .int 0, .int 0, .ref u.2.2.2.1, .ref u.2.2.2.2.1, .ref u.2.2.2.2.2.1, .ref u.2.2.2.2.2.2.1, .ref u.2.2.2.2.2.2.2.1, .ref u.2.2.2.2.2.2.2.2.1])), (u.2.2.2.1, .inl (k.2.1, 20, .inl (fun _ => 0))), (u.2.2.2.2.1, .inl (k.2.1, 20, .inl (fun _ => 0))), (u.2.2.2.2.2.1, .inl (k.2.1, 20, .inl (fun _ => 0))), (u.2.2.2.2.2.2.1, .inl (k.2.1, 20, .inl (fun _ => 0))), (u.2.2.2.2.2.2.2.1, .inl (k.2.1, 6, .inl (fun _ => 0))), (u.2.2.2.2.2.2.2.2.1, .inl (k.2.1, 18, .inl (fun _ => 0))), (u.2.1, .inr (0, [.int 0, .int 0, .int 0, .int 0, .int 0, .int 0, .ref u.2.2.2.2.2.2.2.2.2.1, .ref u.2.2.2.2.2.2.2.2.2.2.1, .ref u.2.2.2.2.2.2.2.2.2.2.2.1, .ref u.2.2.2.2.2.2.2.2.2.2.2.2.1, .ref u.2.2.2.2.2.2.2.2.2.2.2.2.2.1, .ref u.2.2.2.2.2.2.2.2.2.2.2.2.2.2.1])), (u.2.2.2.2.2.2.2.2.2.1, .inl (k.2.1, 20, .inl (fun _ => 0))), (u.2.2.2.2.2.2.2.2.2.2.1, .inl (k.2.1, 20, .inl (fun _ => 0))), (u.2.2.2.2.2.2.2.2.2.2.2.1, .inl (k.2.1, 20, .inl (fun _ => 0))), (u.2.2.2.2.2.2.2.2.2.2.2.2.1, .inl (k.2.1, 20, .inl (fun _ => 0))), (u.2.2.2.2.2.2.2.2.2.2.2.2.2.1, .inl (k.2.1, 6, .inl (fun _ => 0))), (u.2.2.2.2.2.2.2.2.2.2.2.2.2.2.1, .inl (k.2.1, 18, .inl (fun _ => 0))), (u.2.2.1, .inr (9, [.int (-1), .int 0, .int 0, .int 0, .int 0, .ref u.2.2.2.2.2.2.2.2.2.2.2.2.2.2.2.1, .ref u.2.2.2.2.2.2.2.2.2.2.2.2.2.2.2.2.1, .ref u.2.2.2.2.2.2.2.2.2.2.2.2.2.2.2.2.2])), (u.2.2.2.2.2.2.2.2.2.2.2.2.2.2.2.1, .inl (k.2.1, 30, .inl (fun _ => 0))), (u.2.2.2.2.2.2.2.2.2.2.2.2.2.2.2.2.1, .inl (k.2.1, 30, .inl (fun _ => 0))), (u.2.2.2.2.2.2.2.2.2.2.2.2.2.2.2.2.2, .inl (k.2.1, 30, .inl (fun _ => 0)))])) (va_A [(h0, .inr (4, [.int 0, .int 0, .int 0, .int 0, .null, .null, .null]))] sz)) 18 330 (va_A [(h0, .inr (4, [.int 0, .int 0, .int 0, .int 0, .null, .null, .null]))] sz) := by
  refine jy_met (cc := cX5_init) (maxL := 1) (ret := none) (lv := [(0, .ref h0)]) (by decide) rfl (Nat.le_of_ble_eq_true rfl) rfl ?_
  intro p e s m below meth c F hr hlk hnm hN hA
  have hiX0 : ∀ w ∈ u_ws RX0 TX0 12, w ∈ ws_b_X5_init := fun w hw => List.mem_cons_of_mem _ (List.mem_append_left _ (List.mem_append_left _ (List.mem_append_right _ hw)))
  have hiX5 : ∀ w ∈ u_ws RX5 TX5 7, w ∈ ws_b_X5_init := fun w hw => List.mem_cons_of_mem _ (List.mem_append_left _ (List.mem_append_right _ hw))
  have hiX10 : ∀ w ∈ u_ws RX10 TX10 8, w ∈ ws_b_X5_init := fun w hw => List.mem_cons_of_mem _ (List.mem_append_right _ hw)
  refine jy_aload_n (pc' := 1) F 0 dX5_init_0 rfl rfl rfl ?_
  refine jy_objInit (pc' := 4) F dX5_init_1 (List.mem_of_getElem? (i := 1) rfl) (List.mem_of_getElem? (i := 2) rfl) (List.mem_of_getElem? (i := 3) rfl) (by decide) (Nat.le_of_ble_eq_true rfl) rfl ?_
  refine jy_aload_n (pc' := 5) F 0 dX5_init_4 rfl rfl rfl ?_
  refine jy_new (pc' := 8) (C := RX0) (T := TX0) (N := 12) (ci := 0) (fs := [.int 0, .int 0, .int 0, .int 0, .int 0, .int 0, .null, .null, .null, .null, .null, .null]) (cells' := 1) (slots' := 12) (ws' := fun q_1 => [(h0, .inr (4, [.int 0, .int 0, .int 0, .int 0, .null, .null, .null])), (q_1, .inr (0, [.int 0, .int 0, .int 0, .int 0, .int 0, .int 0, .null, .null, .null, .null, .null, .null]))]) F hA hiX0 tyX0 tyX0_ok rfl dfX0 dX5_init_5 (List.mem_of_getElem? (i := 4) rfl) (List.mem_of_getElem? (i := 5) rfl) (List.mem_of_getElem? (i := 6) rfl) rfl rfl (by decide) (by decide) (fun _ => rfl) rfl (fun q_1 => ?_)
  refine jy_dup (pc' := 9) F dX5_init_8 rfl rfl ?_
  refine jy_callv (pc' := 12) (cells' := 7) (slots' := 116) (wr := [(h0, .inr (4, [.int 0, .int 0, .int 0, .int 0, .null, .null, .null]))]) hA [1] [0] rfl rfl (by decide) (by decide) (jy_runIN (As := []) (b := q_1) (st := [.ref q_1, .ref h0]) F hN (fun sz => b_X0_init l D k q_1 sz ) (jy_cIN F g_b_X5_init_b_X0_init rfl hdX0_init (List.mem_of_getElem? (i := 6) rfl) ((hN _ (List.mem_of_getElem? (i := 2) rfl)).2) (List.mem_of_getElem? (i := 16) rfl) rfl rfl rfl ⟨by decide, by decide⟩) [1] rfl (by decide) rfl rfl (Nat.le_of_ble_eq_true rfl) dX5_init_9 ⟨by decide, by decide⟩) rfl rfl rfl (fun u_2 e_3 => ?_)
  obtain ⟨q_4, q_5, q_6, q_7, q_8, q_9⟩ := u_2
  refine jy_ws (ws' := [(h0, .inr (4, [.int 0, .int 0, .int 0, .int 0, .null, .null, .null])), (q_1, .inr (0, [.int 0, .int 0, .int 0, .int 0, .int 0, .int 0, .ref q_4, .ref q_5, .ref q_6, .ref q_7, .ref q_8, .ref q_9])), (q_4, .inl (k.2.1, 20, .inl (fun _ => 0))), (q_5, .inl (k.2.1, 20, .inl (fun _ => 0))), (q_6, .inl (k.2.1, 20, .inl (fun _ => 0))), (q_7, .inl (k.2.1, 20, .inl (fun _ => 0))), (q_8, .inl (k.2.1, 6, .inl (fun _ => 0))), (q_9, .inl (k.2.1, 18, .inl (fun _ => 0)))]) rfl ?_
  refine jy_putF (pc' := 15) (C := RX5) (T := TX5) (N := 7) (ci := 4) (ws' := [(h0, .inr (4, [.int 0, .int 0, .int 0, .int 0, .ref q_1, .null, .null])), (q_1, .inr (0, [.int 0, .int 0, .int 0, .int 0, .int 0, .int 0, .ref q_4, .ref q_5, .ref q_6, .ref q_7, .ref q_8, .ref q_9])), (q_4, .inl (k.2.1, 20, .inl (fun _ => 0))), (q_5, .inl (k.2.1, 20, .inl (fun _ => 0))), (q_6, .inl (k.2.1, 20, .inl (fun _ => 0))), (q_7, .inl (k.2.1, 20, .inl (fun _ => 0))), (q_8, .inl (k.2.1, 6, .inl (fun _ => 0))), (q_9, .inl (k.2.1, 18, .inl (fun _ => 0)))]) F hiX5 tyX5 tyX5_ok nmX5 0 rfl rfl 4 (by decide) dX5_init_12 (List.mem_of_getElem? (i := 17) rfl) rfl hnm rfl rfl rfl rfl (Nat.le_of_ble_eq_true rfl) rfl rfl ?_
  refine jy_aload_n (pc' := 16) F 0 dX5_init_15 rfl rfl rfl ?_
  refine jy_new (pc' := 19) (C := RX0) (T := TX0) (N := 12) (ci := 0) (fs := [.int 0, .int 0, .int 0, .int 0, .int 0, .int 0, .null, .null, .null, .null, .null, .null]) (cells' := 8) (slots' := 128) (ws' := fun q_10 => [(h0, .inr (4, [.int 0, .int 0, .int 0, .int 0, .ref q_1, .null, .null])), (q_1, .inr (0, [.int 0, .int 0, .int 0, .int 0, .int 0, .int 0, .ref q_4, .ref q_5, .ref q_6, .ref q_7, .ref q_8, .ref q_9])), (q_4, .inl (k.2.1, 20, .inl (fun _ => 0))), (q_5, .inl (k.2.1, 20, .inl (fun _ => 0))), (q_6, .inl (k.2.1, 20, .inl (fun _ => 0))), (q_7, .inl (k.2.1, 20, .inl (fun _ => 0))), (q_8, .inl (k.2.1, 6, .inl (fun _ => 0))), (q_9, .inl (k.2.1, 18, .inl (fun _ => 0))), (q_10, .inr (0, [.int 0, .int 0, .int 0, .int 0, .int 0, .int 0, .null, .null, .null, .null, .null, .null]))]) F hA hiX0 tyX0 tyX0_ok rfl dfX0 dX5_init_16 (List.mem_of_getElem? (i := 4) rfl) (List.mem_of_getElem? (i := 5) rfl) (List.mem_of_getElem? (i := 6) rfl) rfl rfl (by decide) (by decide) (fun _ => rfl) rfl (fun q_10 => ?_)
  refine jy_dup (pc' := 20) F dX5_init_19 rfl rfl ?_
  refine jy_callv (pc' := 23) (cells' := 14) (slots' := 232) (wr := [(h0, .inr (4, [.int 0, .int 0, .int 0, .int 0, .ref q_1, .null, .null])), (q_1, .inr (0, [.int 0, .int 0, .int 0, .int 0, .int 0, .int 0, .ref q_4, .ref q_5, .ref q_6, .ref q_7, .ref q_8, .ref q_9])), (q_4, .inl (k.2.1, 20, .inl (fun _ => 0))), (q_5, .inl (k.2.1, 20, .inl (fun _ => 0))), (q_6, .inl (k.2.1, 20, .inl (fun _ => 0))), (q_7, .inl (k.2.1, 20, .inl (fun _ => 0))), (q_8, .inl (k.2.1, 6, .inl (fun _ => 0))), (q_9, .inl (k.2.1, 18, .inl (fun _ => 0)))]) hA [8] [0, 1, 2, 3, 4, 5, 6, 7] rfl rfl (by decide) (by decide) (jy_runIN (As := []) (b := q_10) (st := [.ref q_10, .ref h0]) F hN (fun sz => b_X0_init l D k q_10 sz ) (jy_cIN F g_b_X5_init_b_X0_init rfl hdX0_init (List.mem_of_getElem? (i := 6) rfl) ((hN _ (List.mem_of_getElem? (i := 2) rfl)).2) (List.mem_of_getElem? (i := 16) rfl) rfl rfl rfl ⟨by decide, by decide⟩) [8] rfl (by decide) rfl rfl (Nat.le_of_ble_eq_true rfl) dX5_init_20 ⟨by decide, by decide⟩) rfl rfl rfl (fun u_11 e_12 => ?_)
  obtain ⟨q_13, q_14, q_15, q_16, q_17, q_18⟩ := u_11
  refine jy_ws (ws' := [(h0, .inr (4, [.int 0, .int 0, .int 0, .int 0, .ref q_1, .null, .null])), (q_1, .inr (0, [.int 0, .int 0, .int 0, .int 0, .int 0, .int 0, .ref q_4, .ref q_5, .ref q_6, .ref q_7, .ref q_8, .ref q_9])), (q_4, .inl (k.2.1, 20, .inl (fun _ => 0))), (q_5, .inl (k.2.1, 20, .inl (fun _ => 0))), (q_6, .inl (k.2.1, 20, .inl (fun _ => 0))), (q_7, .inl (k.2.1, 20, .inl (fun _ => 0))), (q_8, .inl (k.2.1, 6, .inl (fun _ => 0))), (q_9, .inl (k.2.1, 18, .inl (fun _ => 0))), (q_10, .inr (0, [.int 0, .int 0, .int 0, .int 0, .int 0, .int 0, .ref q_13, .ref q_14, .ref q_15, .ref q_16, .ref q_17, .ref q_18])), (q_13, .inl (k.2.1, 20, .inl (fun _ => 0))), (q_14, .inl (k.2.1, 20, .inl (fun _ => 0))), (q_15, .inl (k.2.1, 20, .inl (fun _ => 0))), (q_16, .inl (k.2.1, 20, .inl (fun _ => 0))), (q_17, .inl (k.2.1, 6, .inl (fun _ => 0))), (q_18, .inl (k.2.1, 18, .inl (fun _ => 0)))]) rfl ?_
  refine jy_putF (pc' := 26) (C := RX5) (T := TX5) (N := 7) (ci := 4) (ws' := [(h0, .inr (4, [.int 0, .int 0, .int 0, .int 0, .ref q_1, .ref q_10, .null])), (q_1, .inr (0, [.int 0, .int 0, .int 0, .int 0, .int 0, .int 0, .ref q_4, .ref q_5, .ref q_6, .ref q_7, .ref q_8, .ref q_9])), (q_4, .inl (k.2.1, 20, .inl (fun _ => 0))), (q_5, .inl (k.2.1, 20, .inl (fun _ => 0))), (q_6, .inl (k.2.1, 20, .inl (fun _ => 0))), (q_7, .inl (k.2.1, 20, .inl (fun _ => 0))), (q_8, .inl (k.2.1, 6, .inl (fun _ => 0))), (q_9, .inl (k.2.1, 18, .inl (fun _ => 0))), (q_10, .inr (0, [.int 0, .int 0, .int 0, .int 0, .int 0, .int 0, .ref q_13, .ref q_14, .ref q_15, .ref q_16, .ref q_17, .ref q_18])), (q_13, .inl (k.2.1, 20, .inl (fun _ => 0))), (q_14, .inl (k.2.1, 20, .inl (fun _ => 0))), (q_15, .inl (k.2.1, 20, .inl (fun _ => 0))), (q_16, .inl (k.2.1, 20, .inl (fun _ => 0))), (q_17, .inl (k.2.1, 6, .inl (fun _ => 0))), (q_18, .inl (k.2.1, 18, .inl (fun _ => 0)))]) F hiX5 tyX5 tyX5_ok nmX5 0 rfl rfl 5 (by decide) dX5_init_23 (List.mem_of_getElem? (i := 18) rfl) rfl hnm rfl rfl rfl rfl (Nat.le_of_ble_eq_true rfl) rfl rfl ?_
  refine jy_aload_n (pc' := 27) F 0 dX5_init_26 rfl rfl rfl ?_
  refine jy_new (pc' := 30) (C := RX10) (T := TX10) (N := 8) (ci := 9) (fs := [.int 0, .int 0, .int 0, .int 0, .int 0, .null, .null, .null]) (cells' := 15) (slots' := 240) (ws' := fun q_19 => [(h0, .inr (4, [.int 0, .int 0, .int 0, .int 0, .ref q_1, .ref q_10, .null])), (q_1, .inr (0, [.int 0, .int 0, .int 0, .int 0, .int 0, .int 0, .ref q_4, .ref q_5, .ref q_6, .ref q_7, .ref q_8, .ref q_9])), (q_4, .inl (k.2.1, 20, .inl (fun _ => 0))), (q_5, .inl (k.2.1, 20, .inl (fun _ => 0))), (q_6, .inl (k.2.1, 20, .inl (fun _ => 0))), (q_7, .inl (k.2.1, 20, .inl (fun _ => 0))), (q_8, .inl (k.2.1, 6, .inl (fun _ => 0))), (q_9, .inl (k.2.1, 18, .inl (fun _ => 0))), (q_10, .inr (0, [.int 0, .int 0, .int 0, .int 0, .int 0, .int 0, .ref q_13, .ref q_14, .ref q_15, .ref q_16, .ref q_17, .ref q_18])), (q_13, .inl (k.2.1, 20, .inl (fun _ => 0))), (q_14, .inl (k.2.1, 20, .inl (fun _ => 0))), (q_15, .inl (k.2.1, 20, .inl (fun _ => 0))), (q_16, .inl (k.2.1, 20, .inl (fun _ => 0))), (q_17, .inl (k.2.1, 6, .inl (fun _ => 0))), (q_18, .inl (k.2.1, 18, .inl (fun _ => 0))), (q_19, .inr (9, [.int 0, .int 0, .int 0, .int 0, .int 0, .null, .null, .null]))]) F hA hiX10 tyX10 tyX10_ok rfl dfX10 dX5_init_27 (List.mem_of_getElem? (i := 19) rfl) (List.mem_of_getElem? (i := 20) rfl) (List.mem_of_getElem? (i := 21) rfl) rfl rfl (by decide) (by decide) (fun _ => rfl) rfl (fun q_19 => ?_)
  refine jy_dup (pc' := 31) F dX5_init_30 rfl rfl ?_
  refine jy_callv (pc' := 34) (cells' := 18) (slots' := 330) (wr := [(h0, .inr (4, [.int 0, .int 0, .int 0, .int 0, .ref q_1, .ref q_10, .null])), (q_1, .inr (0, [.int 0, .int 0, .int 0, .int 0, .int 0, .int 0, .ref q_4, .ref q_5, .ref q_6, .ref q_7, .ref q_8, .ref q_9])), (q_4, .inl (k.2.1, 20, .inl (fun _ => 0))), (q_5, .inl (k.2.1, 20, .inl (fun _ => 0))), (q_6, .inl (k.2.1, 20, .inl (fun _ => 0))), (q_7, .inl (k.2.1, 20, .inl (fun _ => 0))), (q_8, .inl (k.2.1, 6, .inl (fun _ => 0))), (q_9, .inl (k.2.1, 18, .inl (fun _ => 0))), (q_10, .inr (0, [.int 0, .int 0, .int 0, .int 0, .int 0, .int 0, .ref q_13, .ref q_14, .ref q_15, .ref q_16, .ref q_17, .ref q_18])), (q_13, .inl (k.2.1, 20, .inl (fun _ => 0))), (q_14, .inl (k.2.1, 20, .inl (fun _ => 0))), (q_15, .inl (k.2.1, 20, .inl (fun _ => 0))), (q_16, .inl (k.2.1, 20, .inl (fun _ => 0))), (q_17, .inl (k.2.1, 6, .inl (fun _ => 0))), (q_18, .inl (k.2.1, 18, .inl (fun _ => 0)))]) hA [15] [0, 1, 2, 3, 4, 5, 6, 7, 8, 9, 10, 11, 12, 13, 14] rfl rfl (by decide) (by decide) (jy_runIN (As := []) (b := q_19) (st := [.ref q_19, .ref h0]) F hN (fun sz => b_X10_init l D k q_19 sz ) (jy_cIN F g_b_X5_init_b_X10_init rfl hdX10_init (List.mem_of_getElem? (i := 21) rfl) ((hN _ (List.mem_of_getElem? (i := 3) rfl)).2) (List.mem_of_getElem? (i := 28) rfl) rfl rfl rfl ⟨by decide, by decide⟩) [15] rfl (by decide) rfl rfl (Nat.le_of_ble_eq_true rfl) dX5_init_31 ⟨by decide, by decide⟩) rfl rfl rfl (fun u_20 e_21 => ?_)
  obtain ⟨q_22, q_23, q_24⟩ := u_20
  refine jy_ws (ws' := [(h0, .inr (4, [.int 0, .int 0, .int 0, .int 0, .ref q_1, .ref q_10, .null])), (q_1, .inr (0, [.int 0, .int 0, .int 0, .int 0, .int 0, .int 0, .ref q_4, .ref q_5, .ref q_6, .ref q_7, .ref q_8, .ref q_9])), (q_4, .inl (k.2.1, 20, .inl (fun _ => 0))), (q_5, .inl (k.2.1, 20, .inl (fun _ => 0))), (q_6, .inl (k.2.1, 20, .inl (fun _ => 0))), (q_7, .inl (k.2.1, 20, .inl (fun _ => 0))), (q_8, .inl (k.2.1, 6, .inl (fun _ => 0))), (q_9, .inl (k.2.1, 18, .inl (fun _ => 0))), (q_10, .inr (0, [.int 0, .int 0, .int 0, .int 0, .int 0, .int 0, .ref q_13, .ref q_14, .ref q_15, .ref q_16, .ref q_17, .ref q_18])), (q_13, .inl (k.2.1, 20, .inl (fun _ => 0))), (q_14, .inl (k.2.1, 20, .inl (fun _ => 0))), (q_15, .inl (k.2.1, 20, .inl (fun _ => 0))), (q_16, .inl (k.2.1, 20, .inl (fun _ => 0))), (q_17, .inl (k.2.1, 6, .inl (fun _ => 0))), (q_18, .inl (k.2.1, 18, .inl (fun _ => 0))), (q_19, .inr (9, [.int (-1), .int 0, .int 0, .int 0, .int 0, .ref q_22, .ref q_23, .ref q_24])), (q_22, .inl (k.2.1, 30, .inl (fun _ => 0))), (q_23, .inl (k.2.1, 30, .inl (fun _ => 0))), (q_24, .inl (k.2.1, 30, .inl (fun _ => 0)))]) rfl ?_
  refine jy_putF (pc' := 37) (C := RX5) (T := TX5) (N := 7) (ci := 4) (ws' := [(h0, .inr (4, [.int 0, .int 0, .int 0, .int 0, .ref q_1, .ref q_10, .ref q_19])), (q_1, .inr (0, [.int 0, .int 0, .int 0, .int 0, .int 0, .int 0, .ref q_4, .ref q_5, .ref q_6, .ref q_7, .ref q_8, .ref q_9])), (q_4, .inl (k.2.1, 20, .inl (fun _ => 0))), (q_5, .inl (k.2.1, 20, .inl (fun _ => 0))), (q_6, .inl (k.2.1, 20, .inl (fun _ => 0))), (q_7, .inl (k.2.1, 20, .inl (fun _ => 0))), (q_8, .inl (k.2.1, 6, .inl (fun _ => 0))), (q_9, .inl (k.2.1, 18, .inl (fun _ => 0))), (q_10, .inr (0, [.int 0, .int 0, .int 0, .int 0, .int 0, .int 0, .ref q_13, .ref q_14, .ref q_15, .ref q_16, .ref q_17, .ref q_18])), (q_13, .inl (k.2.1, 20, .inl (fun _ => 0))), (q_14, .inl (k.2.1, 20, .inl (fun _ => 0))), (q_15, .inl (k.2.1, 20, .inl (fun _ => 0))), (q_16, .inl (k.2.1, 20, .inl (fun _ => 0))), (q_17, .inl (k.2.1, 6, .inl (fun _ => 0))), (q_18, .inl (k.2.1, 18, .inl (fun _ => 0))), (q_19, .inr (9, [.int (-1), .int 0, .int 0, .int 0, .int 0, .ref q_22, .ref q_23, .ref q_24])), (q_22, .inl (k.2.1, 30, .inl (fun _ => 0))), (q_23, .inl (k.2.1, 30, .inl (fun _ => 0))), (q_24, .inl (k.2.1, 30, .inl (fun _ => 0)))]) F hiX5 tyX5 tyX5_ok nmX5 0 rfl rfl 6 (by decide) dX5_init_34 (List.mem_of_getElem? (i := 29) rfl) rfl hnm rfl rfl rfl rfl (Nat.le_of_ble_eq_true rfl) rfl rfl ?_
  refine jy_widen (cells' := 18) (slots' := 330) (by decide) (by decide) ?_
  exact jy_vret F hr hlk (q_1, q_10, q_19, q_4, q_5, q_6, q_7, q_8, q_9, q_13, q_14, q_15, q_16, q_17, q_18, q_22, q_23, q_24) (trivial) [0, 1, 2, 3, 4, 5, 6, 7, 8, 9, 10, 11, 12, 13, 14, 15, 16, 17, 18] rfl (by decide) dX5_init_37
theorem hdJ7_fill_53178 : yJ7_fill_53178.cls ≠ "java/lang/invoke/MethodHandle" ∧ yJ7_fill_53178.cls ≠ "java/lang/invoke/VarHandle" ∧ (parseMethodDescriptor yJ7_fill_53178.desc).map (fun d => d.parameters.length) = some 2 := by decide +kernel
def ws_b_fill_6 : List Cond := .code yJ7_fill_53178 cJ7_fill_53178 4 none :: ([])
set_option maxHeartbeats 4000000 in
set_option maxRecDepth 100000 in
theorem b_fill_6 (l : Launch) (D : va_G) (k : jK) (a : Nat) (f : Nat → Int32) (x : Int32) (sz : Nat)  : Met l yJ7_fill_53178 ws_b_fill_6 ({ frames := 0, cells := 0, slots := 0, locals := 0 }) (jy_P [.ref a, .int x] D vwCl (jT k) jW [(a, .inl (k.2.1, 6, .inl f))] sz) (va_Qv (fun (u : Unit) => True) (jy_B D vwCl (va_A [(a, .inl (k.2.1, 6, .inl f))] sz) (fun (u : Unit) => [(a, .inl (k.2.1, 6, .inl (fun j => if j < 6 then x else f j)))])) (va_A [(a, .inl (k.2.1, 6, .inl f))] sz)) 0 0 (va_A [(a, .inl (k.2.1, 6, .inl f))] sz) := by
  refine jy_met (cc := cJ7_fill_53178) (maxL := 4) (ret := none) (lv := [(0, .ref a), (1, .int x)]) (by decide) rfl (Nat.le_of_ble_eq_true rfl) rfl ?_
  intro p e s m below meth c F hr hlk hnm hN hA
  refine jy_iconst (pc' := 1) (v := 0) F dJ7_fill_53178_0 (by decide) rfl ?_
  refine jy_istore_n (pc' := 2) (lv' := [(2, .int 0), (0, .ref a), (1, .int x)]) F dJ7_fill_53178_1 rfl (by decide) rfl rfl ?_
  refine jy_aload_n (pc' := 3) F 1 dJ7_fill_53178_2 rfl rfl rfl ?_
  refine jy_alen (pc' := 4) (v := 6) F 0 1 rfl rfl dJ7_fill_53178_3 rfl rfl ?_
  refine jy_istore_n (pc' := 5) (lv' := [(3, .int 6), (2, .int 0), (0, .ref a), (1, .int x)]) F dJ7_fill_53178_4 rfl (by decide) rfl rfl ?_
  refine jy_lpick (lv' := [(2, .int 0), (3, .int 6), (0, .ref a), (1, .int x)]) [1, 0, 2, 3] rfl ?_
  refine jy_loop (α := Nat → Int32) (ws := fun i_1 a_3 => [(a, .inl (k.2.1, 6, .inl a_3))]) (lv := fun i_1 a_3 => [(2, .int (nI i_1)), (3, .int 6), (0, .ref a), (1, .int x)]) (I := fun i_1 a_3 => a_3 = (fun j => if j < i_1 then x else f j)) (hi := 6) (i0 := 0) (a0 := f) (by omega) (by first | rfl | (funext j; simp)) ?_ ?_
  · rintro i_1 f_2 h_4 hv_6 ih_5
    refine jy_ws (ws' := [(a, .inl (k.2.1, 6, .inl f_2))]) rfl ?_
    refine jy_iload_n (pc' := 6) F 0 dJ7_fill_53178_5 rfl rfl rfl ?_
    refine jy_iload_n (pc' := 7) F 1 dJ7_fill_53178_6 rfl rfl rfl ?_
    refine jy_icmp_ge (pc' := 10) (tgt := 20) F dJ7_fill_53178_7 (by decide) rfl (fun h => absurd h (nI_ge (a := i_1) (b := 6) (by omega) (by omega))) (fun _ => ?_)
    refine jy_aload_n (pc' := 11) F 2 dJ7_fill_53178_10 rfl rfl rfl ?_
    refine jy_iload_n (pc' := 12) F 0 dJ7_fill_53178_11 rfl rfl rfl ?_
    refine jy_iload_n (pc' := 13) F 3 dJ7_fill_53178_12 rfl rfl rfl ?_
    refine jy_iast (pc' := 14) (g := (upd f_2 i_1 x)) (ws' := [(a, .inl (k.2.1, 6, .inl (upd f_2 i_1 x)))]) F 0 1 rfl rfl dJ7_fill_53178_13 (vp_in_nI (n := i_1) (by omega) (by omega)) (by rw [nI_clamp (by omega)]) rfl rfl ?_
    refine jy_iinc (pc' := 17) (v := (nI (i_1 + 1))) (lv' := [(2, .int (nI (i_1 + 1))), (3, .int 6), (0, .ref a), (1, .int x)]) F 0 dJ7_fill_53178_14 rfl (nI_add i_1 1) (by decide) rfl rfl ?_
    refine jy_goto (tgt := 5) F dJ7_fill_53178_17 (by decide) ?_
    refine jy_lpick (lv' := [(2, .int (nI (i_1 + 1))), (3, .int 6), (0, .ref a), (1, .int x)]) [0, 1, 2, 3] rfl ?_
    exact ih_5 ((upd f_2 i_1 x)) (by rw [hv_6]; exact upd_if _ _ _)
  · rintro f_2 hv_6
    subst hv_6
    refine jy_ws (ws' := [(a, .inl (k.2.1, 6, .inl (fun j => if j < 6 then x else f j)))]) rfl ?_
    refine jy_iload_n (pc' := 6) F 0 dJ7_fill_53178_5 rfl rfl rfl ?_
    refine jy_iload_n (pc' := 7) F 1 dJ7_fill_53178_6 rfl rfl rfl ?_
    refine jy_icmp_ge (pc' := 10) (tgt := 20) F dJ7_fill_53178_7 (by decide) rfl (fun _ => ?_) (fun h => absurd (nI_le (a := 6) (b := 6) (by omega) (by omega)) h)
    refine jy_widen (cells' := 0) (slots' := 0) (by decide) (by decide) ?_
    exact jy_vret F hr hlk () (trivial) [0] rfl (by decide) dJ7_fill_53178_20
def ws_b_fill_18 : List Cond := .code yJ7_fill_53178 cJ7_fill_53178 4 none :: ([])
set_option maxHeartbeats 4000000 in
set_option maxRecDepth 100000 in
theorem b_fill_18 (l : Launch) (D : va_G) (k : jK) (a : Nat) (f : Nat → Int32) (x : Int32) (sz : Nat)  : Met l yJ7_fill_53178 ws_b_fill_18 ({ frames := 0, cells := 0, slots := 0, locals := 0 }) (jy_P [.ref a, .int x] D vwCl (jT k) jW [(a, .inl (k.2.1, 18, .inl f))] sz) (va_Qv (fun (u : Unit) => True) (jy_B D vwCl (va_A [(a, .inl (k.2.1, 18, .inl f))] sz) (fun (u : Unit) => [(a, .inl (k.2.1, 18, .inl (fun j => if j < 18 then x else f j)))])) (va_A [(a, .inl (k.2.1, 18, .inl f))] sz)) 0 0 (va_A [(a, .inl (k.2.1, 18, .inl f))] sz) := by
  refine jy_met (cc := cJ7_fill_53178) (maxL := 4) (ret := none) (lv := [(0, .ref a), (1, .int x)]) (by decide) rfl (Nat.le_of_ble_eq_true rfl) rfl ?_
  intro p e s m below meth c F hr hlk hnm hN hA
  refine jy_iconst (pc' := 1) (v := 0) F dJ7_fill_53178_0 (by decide) rfl ?_
  refine jy_istore_n (pc' := 2) (lv' := [(2, .int 0), (0, .ref a), (1, .int x)]) F dJ7_fill_53178_1 rfl (by decide) rfl rfl ?_
  refine jy_aload_n (pc' := 3) F 1 dJ7_fill_53178_2 rfl rfl rfl ?_
  refine jy_alen (pc' := 4) (v := 18) F 0 1 rfl rfl dJ7_fill_53178_3 rfl rfl ?_
  refine jy_istore_n (pc' := 5) (lv' := [(3, .int 18), (2, .int 0), (0, .ref a), (1, .int x)]) F dJ7_fill_53178_4 rfl (by decide) rfl rfl ?_
  refine jy_lpick (lv' := [(2, .int 0), (3, .int 18), (0, .ref a), (1, .int x)]) [1, 0, 2, 3] rfl ?_
  refine jy_loop (α := Nat → Int32) (ws := fun i_1 a_3 => [(a, .inl (k.2.1, 18, .inl a_3))]) (lv := fun i_1 a_3 => [(2, .int (nI i_1)), (3, .int 18), (0, .ref a), (1, .int x)]) (I := fun i_1 a_3 => a_3 = (fun j => if j < i_1 then x else f j)) (hi := 18) (i0 := 0) (a0 := f) (by omega) (by first | rfl | (funext j; simp)) ?_ ?_
  · rintro i_1 f_2 h_4 hv_6 ih_5
    refine jy_ws (ws' := [(a, .inl (k.2.1, 18, .inl f_2))]) rfl ?_
    refine jy_iload_n (pc' := 6) F 0 dJ7_fill_53178_5 rfl rfl rfl ?_
    refine jy_iload_n (pc' := 7) F 1 dJ7_fill_53178_6 rfl rfl rfl ?_
    refine jy_icmp_ge (pc' := 10) (tgt := 20) F dJ7_fill_53178_7 (by decide) rfl (fun h => absurd h (nI_ge (a := i_1) (b := 18) (by omega) (by omega))) (fun _ => ?_)
    refine jy_aload_n (pc' := 11) F 2 dJ7_fill_53178_10 rfl rfl rfl ?_
    refine jy_iload_n (pc' := 12) F 0 dJ7_fill_53178_11 rfl rfl rfl ?_
    refine jy_iload_n (pc' := 13) F 3 dJ7_fill_53178_12 rfl rfl rfl ?_
    refine jy_iast (pc' := 14) (g := (upd f_2 i_1 x)) (ws' := [(a, .inl (k.2.1, 18, .inl (upd f_2 i_1 x)))]) F 0 1 rfl rfl dJ7_fill_53178_13 (vp_in_nI (n := i_1) (by omega) (by omega)) (by rw [nI_clamp (by omega)]) rfl rfl ?_
    refine jy_iinc (pc' := 17) (v := (nI (i_1 + 1))) (lv' := [(2, .int (nI (i_1 + 1))), (3, .int 18), (0, .ref a), (1, .int x)]) F 0 dJ7_fill_53178_14 rfl (nI_add i_1 1) (by decide) rfl rfl ?_
    refine jy_goto (tgt := 5) F dJ7_fill_53178_17 (by decide) ?_
    refine jy_lpick (lv' := [(2, .int (nI (i_1 + 1))), (3, .int 18), (0, .ref a), (1, .int x)]) [0, 1, 2, 3] rfl ?_
    exact ih_5 ((upd f_2 i_1 x)) (by rw [hv_6]; exact upd_if _ _ _)
  · rintro f_2 hv_6
    subst hv_6
    refine jy_ws (ws' := [(a, .inl (k.2.1, 18, .inl (fun j => if j < 18 then x else f j)))]) rfl ?_
    refine jy_iload_n (pc' := 6) F 0 dJ7_fill_53178_5 rfl rfl rfl ?_
    refine jy_iload_n (pc' := 7) F 1 dJ7_fill_53178_6 rfl rfl rfl ?_
    refine jy_icmp_ge (pc' := 10) (tgt := 20) F dJ7_fill_53178_7 (by decide) rfl (fun _ => ?_) (fun h => absurd (nI_le (a := 18) (b := 18) (by omega) (by omega)) h)
    refine jy_widen (cells' := 0) (slots' := 0) (by decide) (by decide) ?_
    exact jy_vret F hr hlk () (trivial) [0] rfl (by decide) dJ7_fill_53178_20
theorem hdX9_init : yX9_init.cls ≠ "java/lang/invoke/MethodHandle" ∧ yX9_init.cls ≠ "java/lang/invoke/VarHandle" ∧ (parseMethodDescriptor yX9_init.desc).map (fun d => d.parameters.length) = some 0 := by decide +kernel
theorem dX9_init_0 : decode cX9_init 0 = .ok (.aload_n 0, 1) := by decide +kernel
theorem dX9_init_1 : decode cX9_init 1 = .ok (.invokespecial 3, 3) := by decide +kernel
theorem dX9_init_4 : decode cX9_init 4 = .ok (.aload_n 0, 1) := by decide +kernel
theorem dX9_init_5 : decode cX9_init 5 = .ok (.sipush 240, 3) := by decide +kernel
theorem dX9_init_8 : decode cX9_init 8 = .ok (.newarray .long, 2) := by decide +kernel
theorem dX9_init_10 : decode cX9_init 10 = .ok (.putfield 11, 3) := by decide +kernel
theorem dX9_init_13 : decode cX9_init 13 = .ok (.aload_n 0, 1) := by decide +kernel
theorem dX9_init_14 : decode cX9_init 14 = .ok (.iconst 4, 1) := by decide +kernel
theorem dX9_init_15 : decode cX9_init 15 = .ok (.newarray .int, 2) := by decide +kernel
theorem dX9_init_17 : decode cX9_init 17 = .ok (.putfield 15, 3) := by decide +kernel
theorem dX9_init_20 : decode cX9_init 20 = .ok (.aload_n 0, 1) := by decide +kernel
theorem dX9_init_21 : decode cX9_init 21 = .ok (.iconst 4, 1) := by decide +kernel
theorem dX9_init_22 : decode cX9_init 22 = .ok (.newarray .int, 2) := by decide +kernel
theorem dX9_init_24 : decode cX9_init 24 = .ok (.putfield 19, 3) := by decide +kernel
theorem dX9_init_27 : decode cX9_init 27 = .ok (.iconst 0, 1) := by decide +kernel
theorem dX9_init_28 : decode cX9_init 28 = .ok (.istore_n 1, 1) := by decide +kernel
theorem dX9_init_29 : decode cX9_init 29 = .ok (.iload_n 1, 1) := by decide +kernel
theorem dX9_init_30 : decode cX9_init 30 = .ok (.iconst 4, 1) := by decide +kernel
theorem dX9_init_31 : decode cX9_init 31 = .ok (.if_icmp .ge 16, 3) := by decide +kernel
theorem dX9_init_34 : decode cX9_init 34 = .ok (.aload_n 0, 1) := by decide +kernel
theorem dX9_init_35 : decode cX9_init 35 = .ok (.getfield 19, 3) := by decide +kernel
theorem dX9_init_38 : decode cX9_init 38 = .ok (.iload_n 1, 1) := by decide +kernel
theorem dX9_init_39 : decode cX9_init 39 = .ok (.iconst (-1), 1) := by decide +kernel
theorem dX9_init_40 : decode cX9_init 40 = .ok (.iastore, 1) := by decide +kernel
theorem dX9_init_41 : decode cX9_init 41 = .ok (.iinc 1 1, 3) := by decide +kernel
theorem dX9_init_44 : decode cX9_init 44 = .ok (.goto (-15), 3) := by decide +kernel
theorem dX9_init_47 : decode cX9_init 47 = .ok (.return_, 1) := by decide +kernel
def ws_b_X9_init : List Cond := .code yX9_init cX9_init 2 none :: ([.methodLink "NestedChecker$Trays" 3 ⟨"java/lang/Object", "<init>", "()V"⟩, .instanceMethod ⟨"java/lang/Object", "<init>", "()V"⟩, .code ⟨"java/lang/Object", "<init>", "()V"⟩ object_method_1_code 1 none, .arrayClass .long, .fieldLink "NestedChecker$Trays" 11 "NestedChecker$Trays" "values" "[J", .arrayClass .int, .fieldLink "NestedChecker$Trays" 15 "NestedChecker$Trays" "sorts" "[I", .fieldLink "NestedChecker$Trays" 19 "NestedChecker$Trays" "places" "[I"] ++ wsX90)
set_option maxHeartbeats 4000000 in
set_option maxRecDepth 100000 in
theorem b_X9_init (l : Launch) (D : va_G) (k : jK) (h0 : Nat) (sz : Nat)  : Met l yX9_init ws_b_X9_init ({ frames := 1, cells := 3, slots := 248, locals := 12 }) (jy_P [.ref h0] D vwCl (jT k) jW [(h0, .inr (8, [.null, .null, .null]))] sz) (va_Qv (fun (u : Nat × Nat × Nat) => True) (jy_B D vwCl (va_A [(h0, .inr (8, [.null, .null, .null]))] sz) (fun (u : Nat × Nat × Nat) => [(h0, .inr (8, [.ref u.1, .ref u.2.1, .ref u.2.2])), (u.1, .inl (k.2.2.1, 240, .inr (.inl (fun _ => 0)))), (u.2.1, .inl (k.2.1, 4, .inl (fun _ => 0))), (u.2.2, .inl (k.2.1, 4, .inl (upd (upd (upd (upd (fun _ => 0) 0 (-1)) 1 (-1)) 2 (-1)) 3 (-1))))])) (va_A [(h0, .inr (8, [.null, .null, .null]))] sz)) 3 248 (va_A [(h0, .inr (8, [.null, .null, .null]))] sz) := by
  refine jy_met (cc := cX9_init) (maxL := 2) (ret := none) (lv := [(0, .ref h0)]) (by decide) rfl (Nat.le_of_ble_eq_true rfl) rfl ?_
  intro p e s m below meth c F hr hlk hnm hN hA
  have hiX9 : ∀ w ∈ u_ws RX9 TX9 3, w ∈ ws_b_X9_init := fun w hw => List.mem_cons_of_mem _ (List.mem_append_right _ hw)
  refine jy_aload_n (pc' := 1) F 0 dX9_init_0 rfl rfl rfl ?_
  refine jy_objInit (pc' := 4) F dX9_init_1 (List.mem_of_getElem? (i := 1) rfl) (List.mem_of_getElem? (i := 2) rfl) (List.mem_of_getElem? (i := 3) rfl) (by decide) (Nat.le_of_ble_eq_true rfl) rfl ?_
  refine jy_aload_n (pc' := 5) F 0 dX9_init_4 rfl rfl rfl ?_
  refine jy_sipush (pc' := 8) (v := 240) F dX9_init_5 (by decide) rfl ?_
  refine jy_newa (pc' := 10) (N' := 240) (a0 := (240, .inr (.inl (fun _ => 0)))) (cells' := 1) (slots' := 240) (ws' := fun q_1 => [(h0, .inr (8, [.null, .null, .null])), (q_1, .inl (k.2.2.1, 240, .inr (.inl (fun _ => 0))))]) F hA 2 rfl rfl dX9_init_8 (List.mem_of_getElem? (i := 4) rfl) (fun _ => rfl) (by decide) (by decide) (by decide) rfl rfl (by decide) (by decide) (fun _ => rfl) rfl (fun q_1 => ?_)
  refine jy_putF (pc' := 13) (C := RX9) (T := TX9) (N := 3) (ci := 8) (ws' := [(h0, .inr (8, [.ref q_1, .null, .null])), (q_1, .inl (k.2.2.1, 240, .inr (.inl (fun _ => 0))))]) F hiX9 tyX9 tyX9_ok nmX9 0 rfl rfl 0 (by decide) dX9_init_10 (List.mem_of_getElem? (i := 5) rfl) rfl hnm rfl rfl rfl rfl (Nat.le_of_ble_eq_true rfl) rfl rfl ?_
  refine jy_aload_n (pc' := 14) F 0 dX9_init_13 rfl rfl rfl ?_
  refine jy_iconst (pc' := 15) (v := 4) F dX9_init_14 (by decide) rfl ?_
  refine jy_newa (pc' := 17) (N' := 4) (a0 := (4, .inl (fun _ => 0))) (cells' := 2) (slots' := 244) (ws' := fun q_2 => [(h0, .inr (8, [.ref q_1, .null, .null])), (q_1, .inl (k.2.2.1, 240, .inr (.inl (fun _ => 0)))), (q_2, .inl (k.2.1, 4, .inl (fun _ => 0)))]) F hA 1 rfl rfl dX9_init_15 (List.mem_of_getElem? (i := 6) rfl) (fun _ => rfl) (by decide) (by decide) (by decide) rfl rfl (by decide) (by decide) (fun _ => rfl) rfl (fun q_2 => ?_)
  refine jy_putF (pc' := 20) (C := RX9) (T := TX9) (N := 3) (ci := 8) (ws' := [(h0, .inr (8, [.ref q_1, .ref q_2, .null])), (q_1, .inl (k.2.2.1, 240, .inr (.inl (fun _ => 0)))), (q_2, .inl (k.2.1, 4, .inl (fun _ => 0)))]) F hiX9 tyX9 tyX9_ok nmX9 0 rfl rfl 1 (by decide) dX9_init_17 (List.mem_of_getElem? (i := 7) rfl) rfl hnm rfl rfl rfl rfl (Nat.le_of_ble_eq_true rfl) rfl rfl ?_
  refine jy_aload_n (pc' := 21) F 0 dX9_init_20 rfl rfl rfl ?_
  refine jy_iconst (pc' := 22) (v := 4) F dX9_init_21 (by decide) rfl ?_
  refine jy_newa (pc' := 24) (N' := 4) (a0 := (4, .inl (fun _ => 0))) (cells' := 3) (slots' := 248) (ws' := fun q_3 => [(h0, .inr (8, [.ref q_1, .ref q_2, .null])), (q_1, .inl (k.2.2.1, 240, .inr (.inl (fun _ => 0)))), (q_2, .inl (k.2.1, 4, .inl (fun _ => 0))), (q_3, .inl (k.2.1, 4, .inl (fun _ => 0)))]) F hA 1 rfl rfl dX9_init_22 (List.mem_of_getElem? (i := 6) rfl) (fun _ => rfl) (by decide) (by decide) (by decide) rfl rfl (by decide) (by decide) (fun _ => rfl) rfl (fun q_3 => ?_)
  refine jy_putF (pc' := 27) (C := RX9) (T := TX9) (N := 3) (ci := 8) (ws' := [(h0, .inr (8, [.ref q_1, .ref q_2, .ref q_3])), (q_1, .inl (k.2.2.1, 240, .inr (.inl (fun _ => 0)))), (q_2, .inl (k.2.1, 4, .inl (fun _ => 0))), (q_3, .inl (k.2.1, 4, .inl (fun _ => 0)))]) F hiX9 tyX9 tyX9_ok nmX9 0 rfl rfl 2 (by decide) dX9_init_24 (List.mem_of_getElem? (i := 8) rfl) rfl hnm rfl rfl rfl rfl (Nat.le_of_ble_eq_true rfl) rfl rfl ?_
  refine jy_iconst (pc' := 28) (v := 0) F dX9_init_27 (by decide) rfl ?_
  refine jy_istore_n (pc' := 29) (lv' := [(1, .int 0), (0, .ref h0)]) F dX9_init_28 rfl (by decide) rfl rfl ?_
  refine jy_iload_n (pc' := 30) F 0 dX9_init_29 rfl rfl rfl ?_
  refine jy_iconst (pc' := 31) (v := 4) F dX9_init_30 (by decide) rfl ?_
  refine jy_icmp_ge (pc' := 34) (tgt := 47) F dX9_init_31 (by decide) rfl (fun h => absurd h (by decide)) (fun _ => ?_)
  refine jy_aload_n (pc' := 35) F 1 dX9_init_34 rfl rfl rfl ?_
  refine jy_get (pc' := 38) (C := RX9) (T := TX9) (N := 3) (ci := 8) (v := .ref q_3) F hiX9 0 rfl rfl 2 (by decide) dX9_init_35 (List.mem_of_getElem? (i := 8) rfl) rfl rfl ?_
  refine jy_iload_n (pc' := 39) F 0 dX9_init_38 rfl rfl rfl ?_
  refine jy_iconst (pc' := 40) (v := (-1)) F dX9_init_39 (by decide) rfl ?_
  refine jy_iast (pc' := 41) (g := (upd (fun _ => 0) 0 (-1))) (ws' := [(h0, .inr (8, [.ref q_1, .ref q_2, .ref q_3])), (q_1, .inl (k.2.2.1, 240, .inr (.inl (fun _ => 0)))), (q_2, .inl (k.2.1, 4, .inl (fun _ => 0))), (q_3, .inl (k.2.1, 4, .inl (upd (fun _ => 0) 0 (-1))))]) F 3 1 rfl rfl dX9_init_40 (vp_in_nI (n := 0) (by omega) (by omega)) rfl rfl rfl ?_
  refine jy_iinc (pc' := 44) (v := 1) (lv' := [(1, .int 1), (0, .ref h0)]) F 0 dX9_init_41 rfl (by decide) (by decide) rfl rfl ?_
  refine jy_goto (tgt := 29) F dX9_init_44 (by decide) ?_
  refine jy_iload_n (pc' := 30) F 0 dX9_init_29 rfl rfl rfl ?_
  refine jy_iconst (pc' := 31) (v := 4) F dX9_init_30 (by decide) rfl ?_
  refine jy_icmp_ge (pc' := 34) (tgt := 47) F dX9_init_31 (by decide) rfl (fun h => absurd h (by decide)) (fun _ => ?_)
  refine jy_aload_n (pc' := 35) F 1 dX9_init_34 rfl rfl rfl ?_
  refine jy_get (pc' := 38) (C := RX9) (T := TX9) (N := 3) (ci := 8) (v := .ref q_3) F hiX9 0 rfl rfl 2 (by decide) dX9_init_35 (List.mem_of_getElem? (i := 8) rfl) rfl rfl ?_
  refine jy_iload_n (pc' := 39) F 0 dX9_init_38 rfl rfl rfl ?_
  refine jy_iconst (pc' := 40) (v := (-1)) F dX9_init_39 (by decide) rfl ?_
  refine jy_iast (pc' := 41) (g := (upd (upd (fun _ => 0) 0 (-1)) 1 (-1))) (ws' := [(h0, .inr (8, [.ref q_1, .ref q_2, .ref q_3])), (q_1, .inl (k.2.2.1, 240, .inr (.inl (fun _ => 0)))), (q_2, .inl (k.2.1, 4, .inl (fun _ => 0))), (q_3, .inl (k.2.1, 4, .inl (upd (upd (fun _ => 0) 0 (-1)) 1 (-1))))]) F 3 1 rfl rfl dX9_init_40 (vp_in_nI (n := 1) (by omega) (by omega)) rfl rfl rfl ?_
  refine jy_iinc (pc' := 44) (v := 2) (lv' := [(1, .int 2), (0, .ref h0)]) F 0 dX9_init_41 rfl (by decide) (by decide) rfl rfl ?_
  refine jy_goto (tgt := 29) F dX9_init_44 (by decide) ?_
  refine jy_iload_n (pc' := 30) F 0 dX9_init_29 rfl rfl rfl ?_
  refine jy_iconst (pc' := 31) (v := 4) F dX9_init_30 (by decide) rfl ?_
  refine jy_icmp_ge (pc' := 34) (tgt := 47) F dX9_init_31 (by decide) rfl (fun h => absurd h (by decide)) (fun _ => ?_)
  refine jy_aload_n (pc' := 35) F 1 dX9_init_34 rfl rfl rfl ?_
  refine jy_get (pc' := 38) (C := RX9) (T := TX9) (N := 3) (ci := 8) (v := .ref q_3) F hiX9 0 rfl rfl 2 (by decide) dX9_init_35 (List.mem_of_getElem? (i := 8) rfl) rfl rfl ?_
  refine jy_iload_n (pc' := 39) F 0 dX9_init_38 rfl rfl rfl ?_
  refine jy_iconst (pc' := 40) (v := (-1)) F dX9_init_39 (by decide) rfl ?_
  refine jy_iast (pc' := 41) (g := (upd (upd (upd (fun _ => 0) 0 (-1)) 1 (-1)) 2 (-1))) (ws' := [(h0, .inr (8, [.ref q_1, .ref q_2, .ref q_3])), (q_1, .inl (k.2.2.1, 240, .inr (.inl (fun _ => 0)))), (q_2, .inl (k.2.1, 4, .inl (fun _ => 0))), (q_3, .inl (k.2.1, 4, .inl (upd (upd (upd (fun _ => 0) 0 (-1)) 1 (-1)) 2 (-1))))]) F 3 1 rfl rfl dX9_init_40 (vp_in_nI (n := 2) (by omega) (by omega)) rfl rfl rfl ?_
  refine jy_iinc (pc' := 44) (v := 3) (lv' := [(1, .int 3), (0, .ref h0)]) F 0 dX9_init_41 rfl (by decide) (by decide) rfl rfl ?_
  refine jy_goto (tgt := 29) F dX9_init_44 (by decide) ?_
  refine jy_iload_n (pc' := 30) F 0 dX9_init_29 rfl rfl rfl ?_
  refine jy_iconst (pc' := 31) (v := 4) F dX9_init_30 (by decide) rfl ?_
  refine jy_icmp_ge (pc' := 34) (tgt := 47) F dX9_init_31 (by decide) rfl (fun h => absurd h (by decide)) (fun _ => ?_)
  refine jy_aload_n (pc' := 35) F 1 dX9_init_34 rfl rfl rfl ?_
  refine jy_get (pc' := 38) (C := RX9) (T := TX9) (N := 3) (ci := 8) (v := .ref q_3) F hiX9 0 rfl rfl 2 (by decide) dX9_init_35 (List.mem_of_getElem? (i := 8) rfl) rfl rfl ?_
  refine jy_iload_n (pc' := 39) F 0 dX9_init_38 rfl rfl rfl ?_
  refine jy_iconst (pc' := 40) (v := (-1)) F dX9_init_39 (by decide) rfl ?_
  refine jy_iast (pc' := 41) (g := (upd (upd (upd (upd (fun _ => 0) 0 (-1)) 1 (-1)) 2 (-1)) 3 (-1))) (ws' := [(h0, .inr (8, [.ref q_1, .ref q_2, .ref q_3])), (q_1, .inl (k.2.2.1, 240, .inr (.inl (fun _ => 0)))), (q_2, .inl (k.2.1, 4, .inl (fun _ => 0))), (q_3, .inl (k.2.1, 4, .inl (upd (upd (upd (upd (fun _ => 0) 0 (-1)) 1 (-1)) 2 (-1)) 3 (-1))))]) F 3 1 rfl rfl dX9_init_40 (vp_in_nI (n := 3) (by omega) (by omega)) rfl rfl rfl ?_
  refine jy_iinc (pc' := 44) (v := 4) (lv' := [(1, .int 4), (0, .ref h0)]) F 0 dX9_init_41 rfl (by decide) (by decide) rfl rfl ?_
  refine jy_goto (tgt := 29) F dX9_init_44 (by decide) ?_
  refine jy_iload_n (pc' := 30) F 0 dX9_init_29 rfl rfl rfl ?_
  refine jy_iconst (pc' := 31) (v := 4) F dX9_init_30 (by decide) rfl ?_
  refine jy_icmp_ge (pc' := 34) (tgt := 47) F dX9_init_31 (by decide) rfl (fun _ => ?_) (fun h => absurd h (by decide))
  refine jy_widen (cells' := 3) (slots' := 248) (by decide) (by decide) ?_
  exact jy_vret F hr hlk (q_1, q_2, q_3) (trivial) [0, 1, 2, 3] rfl (by decide) dX9_init_47
theorem hdX1_init : yX1_init.cls ≠ "java/lang/invoke/MethodHandle" ∧ yX1_init.cls ≠ "java/lang/invoke/VarHandle" ∧ (parseMethodDescriptor yX1_init.desc).map (fun d => d.parameters.length) = some 0 := by decide +kernel
theorem dX1_init_0 : decode cX1_init 0 = .ok (.aload_n 0, 1) := by decide +kernel
theorem dX1_init_1 : decode cX1_init 1 = .ok (.invokespecial 3, 3) := by decide +kernel
theorem dX1_init_4 : decode cX1_init 4 = .ok (.aload_n 0, 1) := by decide +kernel
theorem dX1_init_5 : decode cX1_init 5 = .ok (.new 9, 3) := by decide +kernel
theorem dX1_init_8 : decode cX1_init 8 = .ok (.dup, 1) := by decide +kernel
theorem dX1_init_9 : decode cX1_init 9 = .ok (.invokespecial 11, 3) := by decide +kernel
theorem dX1_init_12 : decode cX1_init 12 = .ok (.putfield 12, 3) := by decide +kernel
theorem dX1_init_15 : decode cX1_init 15 = .ok (.aload_n 0, 1) := by decide +kernel
theorem dX1_init_16 : decode cX1_init 16 = .ok (.iconst (-1), 1) := by decide +kernel
theorem dX1_init_17 : decode cX1_init 17 = .ok (.putfield 18, 3) := by decide +kernel
theorem dX1_init_20 : decode cX1_init 20 = .ok (.aload_n 0, 1) := by decide +kernel
theorem dX1_init_21 : decode cX1_init 21 = .ok (.iconst (-1), 1) := by decide +kernel
theorem dX1_init_22 : decode cX1_init 22 = .ok (.putfield 22, 3) := by decide +kernel
theorem dX1_init_25 : decode cX1_init 25 = .ok (.aload_n 0, 1) := by decide +kernel
theorem dX1_init_26 : decode cX1_init 26 = .ok (.sipush 900, 3) := by decide +kernel
theorem dX1_init_29 : decode cX1_init 29 = .ok (.newarray .byte, 2) := by decide +kernel
theorem dX1_init_31 : decode cX1_init 31 = .ok (.putfield 25, 3) := by decide +kernel
theorem dX1_init_34 : decode cX1_init 34 = .ok (.aload_n 0, 1) := by decide +kernel
theorem dX1_init_35 : decode cX1_init 35 = .ok (.bipush 6, 2) := by decide +kernel
theorem dX1_init_37 : decode cX1_init 37 = .ok (.newarray .int, 2) := by decide +kernel
theorem dX1_init_39 : decode cX1_init 39 = .ok (.putfield 29, 3) := by decide +kernel
theorem dX1_init_42 : decode cX1_init 42 = .ok (.aload_n 0, 1) := by decide +kernel
theorem dX1_init_43 : decode cX1_init 43 = .ok (.bipush 6, 2) := by decide +kernel
theorem dX1_init_45 : decode cX1_init 45 = .ok (.newarray .int, 2) := by decide +kernel
theorem dX1_init_47 : decode cX1_init 47 = .ok (.putfield 33, 3) := by decide +kernel
theorem dX1_init_50 : decode cX1_init 50 = .ok (.return_, 1) := by decide +kernel
def ws_b_X1_init : List Cond := .code yX1_init cX1_init 1 none :: ([.methodLink "NestedChecker$Reader" 3 ⟨"java/lang/Object", "<init>", "()V"⟩, .instanceMethod ⟨"java/lang/Object", "<init>", "()V"⟩, .code ⟨"java/lang/Object", "<init>", "()V"⟩ object_method_1_code 1 none, .classLink "NestedChecker$Reader" 9 "NestedChecker$Setting", .instantiable "NestedChecker$Setting" 7, .initialized "NestedChecker$Setting", .code ⟨"NestedChecker$Setting", "<init>", "()V"⟩ cX5_init 1 none, .methodLink "NestedChecker$Setting" 3 ⟨"java/lang/Object", "<init>", "()V"⟩, .classLink "NestedChecker$Setting" 9 "NestedChecker$Automaton", .instantiable "NestedChecker$Automaton" 12, .initialized "NestedChecker$Automaton", .code ⟨"NestedChecker$Automaton", "<init>", "()V"⟩ cX0_init 1 none, .methodLink "NestedChecker$Automaton" 3 ⟨"java/lang/Object", "<init>", "()V"⟩, .arrayClass .int, .fieldLink "NestedChecker$Automaton" 9 "NestedChecker$Automaton" "letter" "[I", .fieldLink "NestedChecker$Automaton" 15 "NestedChecker$Automaton" "from" "[I", .fieldLink "NestedChecker$Automaton" 18 "NestedChecker$Automaton" "to" "[I", .fieldLink "NestedChecker$Automaton" 21 "NestedChecker$Automaton" "symbol" "[I", .fieldLink "NestedChecker$Automaton" 24 "NestedChecker$Automaton" "step" "[I", .fieldLink "NestedChecker$Automaton" 27 "NestedChecker$Automaton" "stacked" "[I", .instanceMethod ⟨"NestedChecker$Automaton", "<init>", "()V"⟩, .fieldLink "NestedChecker$Setting" 12 "NestedChecker$Setting" "first" "LNestedChecker$Automaton;", .fieldLink "NestedChecker$Setting" 18 "NestedChecker$Setting" "second" "LNestedChecker$Automaton;", .classLink "NestedChecker$Setting" 21 "NestedChecker$Walk", .instantiable "NestedChecker$Walk" 8, .initialized "NestedChecker$Walk", .code ⟨"NestedChecker$Walk", "<init>", "()V"⟩ cX10_init 1 none, .methodLink "NestedChecker$Walk" 3 ⟨"java/lang/Object", "<init>", "()V"⟩, .fieldLink "NestedChecker$Walk" 9 "NestedChecker$Walk" "watched" "I", .fieldLink "NestedChecker$Walk" 15 "NestedChecker$Walk" "belowStates" "[I", .fieldLink "NestedChecker$Walk" 19 "NestedChecker$Walk" "belowPairs" "[I", .fieldLink "NestedChecker$Walk" 22 "NestedChecker$Walk" "belowCall" "[I", .instanceMethod ⟨"NestedChecker$Walk", "<init>", "()V"⟩, .fieldLink "NestedChecker$Setting" 24 "NestedChecker$Setting" "monitor" "LNestedChecker$Walk;", .instanceMethod ⟨"NestedChecker$Setting", "<init>", "()V"⟩, .fieldLink "NestedChecker$Reader" 12 "NestedChecker$Reader" "made" "LNestedChecker$Setting;", .fieldLink "NestedChecker$Reader" 18 "NestedChecker$Reader" "faultKind" "I", .fieldLink "NestedChecker$Reader" 22 "NestedChecker$Reader" "faultPlace" "I", .arrayClass .byte, .fieldLink "NestedChecker$Reader" 25 "NestedChecker$Reader" "tape" "[B", .fieldLink "NestedChecker$Reader" 29 "NestedChecker$Reader" "namePlace" "[I", .fieldLink "NestedChecker$Reader" 33 "NestedChecker$Reader" "nameSize" "[I"] ++ wsX50 ++ wsX00 ++ wsX100 ++ wsX10)
set_option maxRecDepth 20000 in
theorem g_b_X1_init_b_X5_init : GoodIn ws_b_X1_init ws_b_X5_init := goodIn_r _ [7, 8, 2, 3, 9, 10, 11, 12, 13, 14, 15, 16, 17, 18, 19, 20, 21, 22, 23, 24, 25, 26, 27, 28, 29, 30, 31, 32, 33, 34, 50, 51, 52, 53, 54, 55, 56, 57, 58, 59, 60, 61, 43, 44, 45, 46, 47, 48, 49, 62, 63, 64, 65, 66, 67, 68, 69] (by decide +kernel) (by decide +kernel)
set_option maxHeartbeats 4000000 in
set_option maxRecDepth 100000 in
theorem b_X1_init (l : Launch) (D : va_G) (k : jK) (h0 : Nat) (sz : Nat)  : Met l yX1_init ws_b_X1_init ({ frames := 3, cells := 22, slots := 1249, locals := 52 }) (jy_P [.ref h0] D vwCl (jT k) jW [(h0, .inr (1, [.null, .int 0, .int 0, .int 0, .null, .int 0, .int 0, .int 0, .int 0, .int 0, .null, .null]))] sz) (va_Qv (fun (u : Nat × Nat × Nat × Nat × Nat × Nat × Nat × Nat × Nat × Nat × Nat × Nat × Nat × Nat × Nat × Nat × Nat × Nat × Nat × Nat × Nat × Nat) => True) (jy_B D vwCl (va_A [(h0, .inr (1, [.null, .int 0, .int 0, .int 0, .null, .int 0, .int 0, .int 0, .int 0, .int 0, .null, .null]))] sz) (fun (u : Nat × Nat × Nat × Nat × Nat × Nat × Nat × Nat × Nat × Nat × Nat × Nat × Nat × Nat × Nat × Nat × Nat × Nat × Nat × Nat × Nat × Nat) => [(h0, .inr (1, [.ref u.1, .int 0, .int (-1), .int (-1), .ref u.2.1, .int 0, .int 0, .int 0, .int 0, .int 0, .ref u.2.2.1, .ref u.2.2.2.1])), (u.1, .inr (4, [.int 0, .int 0, .int 0, .int 0, .ref u.2.2.2.2.1, .ref u.2.2.2.2.2.1, .ref u.2.2.2.2.2.2.1])), (u.2.2.2.2.1, .inr (0, [.int 0, .int 0, .int 0, .int 0, .int 0, .int 0, .ref u.2.2.2.2.2.2.2.1, .ref u.2.2.2.2.2.2.2.2.1, .ref u.2.2.2.2.2.2.2.2.2.1, .ref u.2.2.2.2.2.2.2.2.2.2.1, .ref u.2.2.2.2.2.2.2.2.2.2.2.1, .ref u.2.2.2.2.2.2.2.2.2.2.2.2.1])), (u.2.2.2.2.2.2.2.1, .inl (k.2.1, 20, .inl (fun _ => 0))), (u.2.2.2.2.2.2.2.2.1, .inl (k.2.1, 20, .inl (fun _ => 0))), (u.2.2.2.2.2.2.2.2.2.1, .inl (k.2.1, 20, .inl (fun _ => 0))), (u.2.2.2.2.2.2.2.2.2.2.1, .inl (k.2.1, 20, .inl (fun _ => 0))), (u.2.2.2.2.2.2.2.2.2.2.2.1, .inl (k.2.1, 6, .inl (fun _ => 0))), (u.2.2.2.2.2.2.2.2.2.2.2.2.1, .inl (k.2.1, 18, .inl (fun _ => 0))), (u.2.2.2.2.2.1, .inr (0, [.int 0, .int 0, .int 0, .int 0, .int 0, .int 0, .ref u.2.2.2.2.2.2.2.2.2.2.2.2.2.1, .ref u.2.2.2.2.2.2.2.2.2.2.2.2.2.2.1, .ref u.2.2.2.2.2.2.2.2.2.2.2.2.2.2.2.1, .ref u.2.2.2.2.2.2.2.2.2.2.2.2.2.2.2.2.1, .ref u.2.2.2.2.2.2.2.2.2.2.2.2.2.2.2.2.2.1, .ref u.2.2.2.2.2.2.2.2.2.2.2.2.2.2.2.2.2.2.1])), (u.2.2.2.2.2.2.2.2.2.2.2.2.2.1, .inl (k.2.1, 20, .inl (fun _ => 0))), (u.2.2.2.2.2.2.2.2.2.2.2.2.2.2.1, .inl (k.2.1, 20, .inl (fun _ => 0))), (u.2.2.2.2.2.2.2.2.2.2.2.2.2.2.2.1, .inl (k.2.1, 20, .inl (fun _ => 0))), (u.2.2.2.2.2.2.2.2.2.2.2.2.2.2.2.2.1, .inl (k.2.1, 20, .inl (fun _ => 0))), (u.2.2.2.2.2.2.2.2.2.2.2.2.2.2.2.2.2.1, .inl (k.2.1, 6, .inl (fun _ => 0))), (u.2.2.2.2.2.2.2.2.2.2.2.2.2.2.2.2.2.2.1, .inl (k.2.1, 18, .inl (fun _ => 0))), (u.2.2.2.2.2.2.1, .inr (9, [.int (-1), .int 0, .int 0, .int 0, .int 0, .ref u.2.2.2.2.2.2.2.2.2.2.2.2.2.2.2.2.2.2.2.1, .ref u.2.2.2.2.2.2.2.2.2.2.2.2.2.2.2.2.2.2.2.2.1, .ref u.2.2.2.2.2.2.2.2.2.2.2.2.2.2.2.2.2.2.2.2.2])), (u.2.2.2.2.2.2.2.2.2.2.2.2.2.2.2.2.2.2.2.1, .inl (k.2.1, 30, .inl (fun _ => 0))), (u.2.2.2.2.2.2.2.2.2.2.2.2.2.2.2.2.2.2.2.2.1, .inl (k.2.1, 30, .inl (fun _ => 0))), (u.2.2.2.2.2.2.2.2.2.2.2.2.2.2.2.2.2.2.2.2.2, .inl (k.2.1, 30, .inl (fun _ => 0))), (u.2.1, .inl (k.1, 900, .inl (fun _ => 0))), (u.2.2.1, .inl (k.2.1, 6, .inl (fun _ => 0))), (u.2.2.2.1, .inl (k.2.1, 6, .inl (fun _ => 0)))])) (va_A [(h0, .inr (1, [.null, .int 0, .int 0, .int 0, .null, .int 0, .int 0, .int 0, .int 0, .int 0, .null, .null]))] sz)) 22 1249 (va_A [(h0, .inr (1, [.null, .int 0, .int 0, .int 0, .null, .int 0, .int 0, .int 0, .int 0, .int 0, .null, .null]))] sz) := by
  refine jy_met (cc := cX1_init) (maxL := 1) (ret := none) (lv := [(0, .ref h0)]) (by decide) rfl (Nat.le_of_ble_eq_true rfl) rfl ?_
  intro p e s m below meth c F hr hlk hnm hN hA
  have hiX5 : ∀ w ∈ u_ws RX5 TX5 7, w ∈ ws_b_X1_init := fun w hw => List.mem_cons_of_mem _ (List.mem_append_left _ (List.mem_append_left _ (List.mem_append_left _ (List.mem_append_right _ hw))))
  have hiX0 : ∀ w ∈ u_ws RX0 TX0 12, w ∈ ws_b_X1_init := fun w hw => List.mem_cons_of_mem _ (List.mem_append_left _ (List.mem_append_left _ (List.mem_append_right _ hw)))
  have hiX10 : ∀ w ∈ u_ws RX10 TX10 8, w ∈ ws_b_X1_init := fun w hw => List.mem_cons_of_mem _ (List.mem_append_left _ (List.mem_append_right _ hw))
  have hiX1 : ∀ w ∈ u_ws RX1 TX1 12, w ∈ ws_b_X1_init := fun w hw => List.mem_cons_of_mem _ (List.mem_append_right _ hw)
  refine jy_aload_n (pc' := 1) F 0 dX1_init_0 rfl rfl rfl ?_
  refine jy_objInit (pc' := 4) F dX1_init_1 (List.mem_of_getElem? (i := 1) rfl) (List.mem_of_getElem? (i := 2) rfl) (List.mem_of_getElem? (i := 3) rfl) (by decide) (Nat.le_of_ble_eq_true rfl) rfl ?_
  refine jy_aload_n (pc' := 5) F 0 dX1_init_4 rfl rfl rfl ?_
  refine jy_new (pc' := 8) (C := RX5) (T := TX5) (N := 7) (ci := 4) (fs := [.int 0, .int 0, .int 0, .int 0, .null, .null, .null]) (cells' := 1) (slots' := 7) (ws' := fun q_1 => [(h0, .inr (1, [.null, .int 0, .int 0, .int 0, .null, .int 0, .int 0, .int 0, .int 0, .int 0, .null, .null])), (q_1, .inr (4, [.int 0, .int 0, .int 0, .int 0, .null, .null, .null]))]) F hA hiX5 tyX5 tyX5_ok rfl dfX5 dX1_init_5 (List.mem_of_getElem? (i := 4) rfl) (List.mem_of_getElem? (i := 5) rfl) (List.mem_of_getElem? (i := 6) rfl) rfl rfl (by decide) (by decide) (fun _ => rfl) rfl (fun q_1 => ?_)
  refine jy_dup (pc' := 9) F dX1_init_8 rfl rfl ?_
  refine jy_callv (pc' := 12) (cells' := 19) (slots' := 337) (wr := [(h0, .inr (1, [.null, .int 0, .int 0, .int 0, .null, .int 0, .int 0, .int 0, .int 0, .int 0, .null, .null]))]) hA [1] [0] rfl rfl (by decide) (by decide) (jy_runIN (As := []) (b := q_1) (st := [.ref q_1, .ref h0]) F hN (fun sz => b_X5_init l D k q_1 sz ) (jy_cIN F g_b_X1_init_b_X5_init rfl hdX5_init (List.mem_of_getElem? (i := 6) rfl) ((hN _ (List.mem_of_getElem? (i := 1) rfl)).2) (List.mem_of_getElem? (i := 35) rfl) rfl rfl rfl ⟨by decide, by decide⟩) [1] rfl (by decide) rfl rfl (Nat.le_of_ble_eq_true rfl) dX1_init_9 ⟨by decide, by decide⟩) rfl rfl rfl (fun u_2 e_3 => ?_)
  obtain ⟨q_4, q_5, q_6, q_7, q_8, q_9, q_10, q_11, q_12, q_13, q_14, q_15, q_16, q_17, q_18, q_19, q_20, q_21⟩ := u_2
  refine jy_ws (ws' := [(h0, .inr (1, [.null, .int 0, .int 0, .int 0, .null, .int 0, .int 0, .int 0, .int 0, .int 0, .null, .null])), (q_1, .inr (4, [.int 0, .int 0, .int 0, .int 0, .ref q_4, .ref q_5, .ref q_6])), (q_4, .inr (0, [.int 0, .int 0, .int 0, .int 0, .int 0, .int 0, .ref q_7, .ref q_8, .ref q_9, .ref q_10, .ref q_11, .ref q_12])), (q_7, .inl (k.2.1, 20, .inl (fun _ => 0))), (q_8, .inl (k.2.1, 20, .inl (fun _ => 0))), (q_9, .inl (k.2.1, 20, .inl (fun _ => 0))), (q_10, .inl (k.2.1, 20, .inl (fun _ => 0))), (q_11, .inl (k.2.1, 6, .inl (fun _ => 0))), (q_12, .inl (k.2.1, 18, .inl (fun _ => 0))), (q_5, .inr (0, [.int 0, .int 0, .int 0, .int 0, .int 0, .int 0, .ref q_13, .ref q_14, .ref q_15, .ref q_16, .ref q_17, .ref q_18])), (q_13, .inl (k.2.1, 20, .inl (fun _ => 0))), (q_14, .inl (k.2.1, 20, .inl (fun _ => 0))), (q_15, .inl (k.2.1, 20, .inl (fun _ => 0))), (q_16, .inl (k.2.1, 20, .inl (fun _ => 0))), (q_17, .inl (k.2.1, 6, .inl (fun _ => 0))), (q_18, .inl (k.2.1, 18, .inl (fun _ => 0))), (q_6, .inr (9, [.int (-1), .int 0, .int 0, .int 0, .int 0, .ref q_19, .ref q_20, .ref q_21])), (q_19, .inl (k.2.1, 30, .inl (fun _ => 0))), (q_20, .inl (k.2.1, 30, .inl (fun _ => 0))), (q_21, .inl (k.2.1, 30, .inl (fun _ => 0)))]) rfl ?_
  refine jy_put (pc' := 15) (C := RX1) (T := TX1) (N := 12) (ci := 1) (ws' := [(h0, .inr (1, [.ref q_1, .int 0, .int 0, .int 0, .null, .int 0, .int 0, .int 0, .int 0, .int 0, .null, .null])), (q_1, .inr (4, [.int 0, .int 0, .int 0, .int 0, .ref q_4, .ref q_5, .ref q_6])), (q_4, .inr (0, [.int 0, .int 0, .int 0, .int 0, .int 0, .int 0, .ref q_7, .ref q_8, .ref q_9, .ref q_10, .ref q_11, .ref q_12])), (q_7, .inl (k.2.1, 20, .inl (fun _ => 0))), (q_8, .inl (k.2.1, 20, .inl (fun _ => 0))), (q_9, .inl (k.2.1, 20, .inl (fun _ => 0))), (q_10, .inl (k.2.1, 20, .inl (fun _ => 0))), (q_11, .inl (k.2.1, 6, .inl (fun _ => 0))), (q_12, .inl (k.2.1, 18, .inl (fun _ => 0))), (q_5, .inr (0, [.int 0, .int 0, .int 0, .int 0, .int 0, .int 0, .ref q_13, .ref q_14, .ref q_15, .ref q_16, .ref q_17, .ref q_18])), (q_13, .inl (k.2.1, 20, .inl (fun _ => 0))), (q_14, .inl (k.2.1, 20, .inl (fun _ => 0))), (q_15, .inl (k.2.1, 20, .inl (fun _ => 0))), (q_16, .inl (k.2.1, 20, .inl (fun _ => 0))), (q_17, .inl (k.2.1, 6, .inl (fun _ => 0))), (q_18, .inl (k.2.1, 18, .inl (fun _ => 0))), (q_6, .inr (9, [.int (-1), .int 0, .int 0, .int 0, .int 0, .ref q_19, .ref q_20, .ref q_21])), (q_19, .inl (k.2.1, 30, .inl (fun _ => 0))), (q_20, .inl (k.2.1, 30, .inl (fun _ => 0))), (q_21, .inl (k.2.1, 30, .inl (fun _ => 0)))]) F hiX1 tyX1 tyX1_ok nmX1 0 rfl rfl 0 (by decide) dX1_init_12 (List.mem_of_getElem? (i := 36) rfl) rfl rfl rfl rfl (Nat.le_of_ble_eq_true rfl) rfl rfl ?_
  refine jy_aload_n (pc' := 16) F 0 dX1_init_15 rfl rfl rfl ?_
  refine jy_iconst (pc' := 17) (v := (-1)) F dX1_init_16 (by decide) rfl ?_
  refine jy_put (pc' := 20) (C := RX1) (T := TX1) (N := 12) (ci := 1) (ws' := [(h0, .inr (1, [.ref q_1, .int 0, .int (-1), .int 0, .null, .int 0, .int 0, .int 0, .int 0, .int 0, .null, .null])), (q_1, .inr (4, [.int 0, .int 0, .int 0, .int 0, .ref q_4, .ref q_5, .ref q_6])), (q_4, .inr (0, [.int 0, .int 0, .int 0, .int 0, .int 0, .int 0, .ref q_7, .ref q_8, .ref q_9, .ref q_10, .ref q_11, .ref q_12])), (q_7, .inl (k.2.1, 20, .inl (fun _ => 0))), (q_8, .inl (k.2.1, 20, .inl (fun _ => 0))), (q_9, .inl (k.2.1, 20, .inl (fun _ => 0))), (q_10, .inl (k.2.1, 20, .inl (fun _ => 0))), (q_11, .inl (k.2.1, 6, .inl (fun _ => 0))), (q_12, .inl (k.2.1, 18, .inl (fun _ => 0))), (q_5, .inr (0, [.int 0, .int 0, .int 0, .int 0, .int 0, .int 0, .ref q_13, .ref q_14, .ref q_15, .ref q_16, .ref q_17, .ref q_18])), (q_13, .inl (k.2.1, 20, .inl (fun _ => 0))), (q_14, .inl (k.2.1, 20, .inl (fun _ => 0))), (q_15, .inl (k.2.1, 20, .inl (fun _ => 0))), (q_16, .inl (k.2.1, 20, .inl (fun _ => 0))), (q_17, .inl (k.2.1, 6, .inl (fun _ => 0))), (q_18, .inl (k.2.1, 18, .inl (fun _ => 0))), (q_6, .inr (9, [.int (-1), .int 0, .int 0, .int 0, .int 0, .ref q_19, .ref q_20, .ref q_21])), (q_19, .inl (k.2.1, 30, .inl (fun _ => 0))), (q_20, .inl (k.2.1, 30, .inl (fun _ => 0))), (q_21, .inl (k.2.1, 30, .inl (fun _ => 0)))]) F hiX1 tyX1 tyX1_ok nmX1 0 rfl rfl 2 (by decide) dX1_init_17 (List.mem_of_getElem? (i := 37) rfl) rfl rfl rfl rfl (Nat.le_of_ble_eq_true rfl) rfl rfl ?_
  refine jy_aload_n (pc' := 21) F 0 dX1_init_20 rfl rfl rfl ?_
  refine jy_iconst (pc' := 22) (v := (-1)) F dX1_init_21 (by decide) rfl ?_
  refine jy_put (pc' := 25) (C := RX1) (T := TX1) (N := 12) (ci := 1) (ws' := [(h0, .inr (1, [.ref q_1, .int 0, .int (-1), .int (-1), .null, .int 0, .int 0, .int 0, .int 0, .int 0, .null, .null])), (q_1, .inr (4, [.int 0, .int 0, .int 0, .int 0, .ref q_4, .ref q_5, .ref q_6])), (q_4, .inr (0, [.int 0, .int 0, .int 0, .int 0, .int 0, .int 0, .ref q_7, .ref q_8, .ref q_9, .ref q_10, .ref q_11, .ref q_12])), (q_7, .inl (k.2.1, 20, .inl (fun _ => 0))), (q_8, .inl (k.2.1, 20, .inl (fun _ => 0))), (q_9, .inl (k.2.1, 20, .inl (fun _ => 0))), (q_10, .inl (k.2.1, 20, .inl (fun _ => 0))), (q_11, .inl (k.2.1, 6, .inl (fun _ => 0))), (q_12, .inl (k.2.1, 18, .inl (fun _ => 0))), (q_5, .inr (0, [.int 0, .int 0, .int 0, .int 0, .int 0, .int 0, .ref q_13, .ref q_14, .ref q_15, .ref q_16, .ref q_17, .ref q_18])), (q_13, .inl (k.2.1, 20, .inl (fun _ => 0))), (q_14, .inl (k.2.1, 20, .inl (fun _ => 0))), (q_15, .inl (k.2.1, 20, .inl (fun _ => 0))), (q_16, .inl (k.2.1, 20, .inl (fun _ => 0))), (q_17, .inl (k.2.1, 6, .inl (fun _ => 0))), (q_18, .inl (k.2.1, 18, .inl (fun _ => 0))), (q_6, .inr (9, [.int (-1), .int 0, .int 0, .int 0, .int 0, .ref q_19, .ref q_20, .ref q_21])), (q_19, .inl (k.2.1, 30, .inl (fun _ => 0))), (q_20, .inl (k.2.1, 30, .inl (fun _ => 0))), (q_21, .inl (k.2.1, 30, .inl (fun _ => 0)))]) F hiX1 tyX1 tyX1_ok nmX1 0 rfl rfl 3 (by decide) dX1_init_22 (List.mem_of_getElem? (i := 38) rfl) rfl rfl rfl rfl (Nat.le_of_ble_eq_true rfl) rfl rfl ?_
  refine jy_aload_n (pc' := 26) F 0 dX1_init_25 rfl rfl rfl ?_
  refine jy_sipush (pc' := 29) (v := 900) F dX1_init_26 (by decide) rfl ?_
  refine jy_newa (pc' := 31) (N' := 900) (a0 := (900, .inl (fun _ => 0))) (cells' := 20) (slots' := 1237) (ws' := fun q_22 => [(h0, .inr (1, [.ref q_1, .int 0, .int (-1), .int (-1), .null, .int 0, .int 0, .int 0, .int 0, .int 0, .null, .null])), (q_1, .inr (4, [.int 0, .int 0, .int 0, .int 0, .ref q_4, .ref q_5, .ref q_6])), (q_4, .inr (0, [.int 0, .int 0, .int 0, .int 0, .int 0, .int 0, .ref q_7, .ref q_8, .ref q_9, .ref q_10, .ref q_11, .ref q_12])), (q_7, .inl (k.2.1, 20, .inl (fun _ => 0))), (q_8, .inl (k.2.1, 20, .inl (fun _ => 0))), (q_9, .inl (k.2.1, 20, .inl (fun _ => 0))), (q_10, .inl (k.2.1, 20, .inl (fun _ => 0))), (q_11, .inl (k.2.1, 6, .inl (fun _ => 0))), (q_12, .inl (k.2.1, 18, .inl (fun _ => 0))), (q_5, .inr (0, [.int 0, .int 0, .int 0, .int 0, .int 0, .int 0, .ref q_13, .ref q_14, .ref q_15, .ref q_16, .ref q_17, .ref q_18])), (q_13, .inl (k.2.1, 20, .inl (fun _ => 0))), (q_14, .inl (k.2.1, 20, .inl (fun _ => 0))), (q_15, .inl (k.2.1, 20, .inl (fun _ => 0))), (q_16, .inl (k.2.1, 20, .inl (fun _ => 0))), (q_17, .inl (k.2.1, 6, .inl (fun _ => 0))), (q_18, .inl (k.2.1, 18, .inl (fun _ => 0))), (q_6, .inr (9, [.int (-1), .int 0, .int 0, .int 0, .int 0, .ref q_19, .ref q_20, .ref q_21])), (q_19, .inl (k.2.1, 30, .inl (fun _ => 0))), (q_20, .inl (k.2.1, 30, .inl (fun _ => 0))), (q_21, .inl (k.2.1, 30, .inl (fun _ => 0))), (q_22, .inl (k.1, 900, .inl (fun _ => 0)))]) F hA 0 rfl rfl dX1_init_29 (List.mem_of_getElem? (i := 39) rfl) (fun _ => rfl) (by decide) (by decide) (by decide) rfl rfl (by decide) (by decide) (fun _ => rfl) rfl (fun q_22 => ?_)
  refine jy_putF (pc' := 34) (C := RX1) (T := TX1) (N := 12) (ci := 1) (ws' := [(h0, .inr (1, [.ref q_1, .int 0, .int (-1), .int (-1), .ref q_22, .int 0, .int 0, .int 0, .int 0, .int 0, .null, .null])), (q_1, .inr (4, [.int 0, .int 0, .int 0, .int 0, .ref q_4, .ref q_5, .ref q_6])), (q_4, .inr (0, [.int 0, .int 0, .int 0, .int 0, .int 0, .int 0, .ref q_7, .ref q_8, .ref q_9, .ref q_10, .ref q_11, .ref q_12])), (q_7, .inl (k.2.1, 20, .inl (fun _ => 0))), (q_8, .inl (k.2.1, 20, .inl (fun _ => 0))), (q_9, .inl (k.2.1, 20, .inl (fun _ => 0))), (q_10, .inl (k.2.1, 20, .inl (fun _ => 0))), (q_11, .inl (k.2.1, 6, .inl (fun _ => 0))), (q_12, .inl (k.2.1, 18, .inl (fun _ => 0))), (q_5, .inr (0, [.int 0, .int 0, .int 0, .int 0, .int 0, .int 0, .ref q_13, .ref q_14, .ref q_15, .ref q_16, .ref q_17, .ref q_18])), (q_13, .inl (k.2.1, 20, .inl (fun _ => 0))), (q_14, .inl (k.2.1, 20, .inl (fun _ => 0))), (q_15, .inl (k.2.1, 20, .inl (fun _ => 0))), (q_16, .inl (k.2.1, 20, .inl (fun _ => 0))), (q_17, .inl (k.2.1, 6, .inl (fun _ => 0))), (q_18, .inl (k.2.1, 18, .inl (fun _ => 0))), (q_6, .inr (9, [.int (-1), .int 0, .int 0, .int 0, .int 0, .ref q_19, .ref q_20, .ref q_21])), (q_19, .inl (k.2.1, 30, .inl (fun _ => 0))), (q_20, .inl (k.2.1, 30, .inl (fun _ => 0))), (q_21, .inl (k.2.1, 30, .inl (fun _ => 0))), (q_22, .inl (k.1, 900, .inl (fun _ => 0)))]) F hiX1 tyX1 tyX1_ok nmX1 0 rfl rfl 4 (by decide) dX1_init_31 (List.mem_of_getElem? (i := 40) rfl) rfl hnm rfl rfl rfl rfl (Nat.le_of_ble_eq_true rfl) rfl rfl ?_
  refine jy_aload_n (pc' := 35) F 0 dX1_init_34 rfl rfl rfl ?_
  refine jy_bipush (pc' := 37) (v := 6) F dX1_init_35 (by decide) rfl ?_
  refine jy_newa (pc' := 39) (N' := 6) (a0 := (6, .inl (fun _ => 0))) (cells' := 21) (slots' := 1243) (ws' := fun q_23 => [(h0, .inr (1, [.ref q_1, .int 0, .int (-1), .int (-1), .ref q_22, .int 0, .int 0, .int 0, .int 0, .int 0, .null, .null])), (q_1, .inr (4, [.int 0, .int 0, .int 0, .int 0, .ref q_4, .ref q_5, .ref q_6])), (q_4, .inr (0, [.int 0, .int 0, .int 0, .int 0, .int 0, .int 0, .ref q_7, .ref q_8, .ref q_9, .ref q_10, .ref q_11, .ref q_12])), (q_7, .inl (k.2.1, 20, .inl (fun _ => 0))), (q_8, .inl (k.2.1, 20, .inl (fun _ => 0))), (q_9, .inl (k.2.1, 20, .inl (fun _ => 0))), (q_10, .inl (k.2.1, 20, .inl (fun _ => 0))), (q_11, .inl (k.2.1, 6, .inl (fun _ => 0))), (q_12, .inl (k.2.1, 18, .inl (fun _ => 0))), (q_5, .inr (0, [.int 0, .int 0, .int 0, .int 0, .int 0, .int 0, .ref q_13, .ref q_14, .ref q_15, .ref q_16, .ref q_17, .ref q_18])), (q_13, .inl (k.2.1, 20, .inl (fun _ => 0))), (q_14, .inl (k.2.1, 20, .inl (fun _ => 0))), (q_15, .inl (k.2.1, 20, .inl (fun _ => 0))), (q_16, .inl (k.2.1, 20, .inl (fun _ => 0))), (q_17, .inl (k.2.1, 6, .inl (fun _ => 0))), (q_18, .inl (k.2.1, 18, .inl (fun _ => 0))), (q_6, .inr (9, [.int (-1), .int 0, .int 0, .int 0, .int 0, .ref q_19, .ref q_20, .ref q_21])), (q_19, .inl (k.2.1, 30, .inl (fun _ => 0))), (q_20, .inl (k.2.1, 30, .inl (fun _ => 0))), (q_21, .inl (k.2.1, 30, .inl (fun _ => 0))), (q_22, .inl (k.1, 900, .inl (fun _ => 0))), (q_23, .inl (k.2.1, 6, .inl (fun _ => 0)))]) F hA 1 rfl rfl dX1_init_37 (List.mem_of_getElem? (i := 14) rfl) (fun _ => rfl) (by decide) (by decide) (by decide) rfl rfl (by decide) (by decide) (fun _ => rfl) rfl (fun q_23 => ?_)
  refine jy_putF (pc' := 42) (C := RX1) (T := TX1) (N := 12) (ci := 1) (ws' := [(h0, .inr (1, [.ref q_1, .int 0, .int (-1), .int (-1), .ref q_22, .int 0, .int 0, .int 0, .int 0, .int 0, .ref q_23, .null])), (q_1, .inr (4, [.int 0, .int 0, .int 0, .int 0, .ref q_4, .ref q_5, .ref q_6])), (q_4, .inr (0, [.int 0, .int 0, .int 0, .int 0, .int 0, .int 0, .ref q_7, .ref q_8, .ref q_9, .ref q_10, .ref q_11, .ref q_12])), (q_7, .inl (k.2.1, 20, .inl (fun _ => 0))), (q_8, .inl (k.2.1, 20, .inl (fun _ => 0))), (q_9, .inl (k.2.1, 20, .inl (fun _ => 0))), (q_10, .inl (k.2.1, 20, .inl (fun _ => 0))), (q_11, .inl (k.2.1, 6, .inl (fun _ => 0))), (q_12, .inl (k.2.1, 18, .inl (fun _ => 0))), (q_5, .inr (0, [.int 0, .int 0, .int 0, .int 0, .int 0, .int 0, .ref q_13, .ref q_14, .ref q_15, .ref q_16, .ref q_17, .ref q_18])), (q_13, .inl (k.2.1, 20, .inl (fun _ => 0))), (q_14, .inl (k.2.1, 20, .inl (fun _ => 0))), (q_15, .inl (k.2.1, 20, .inl (fun _ => 0))), (q_16, .inl (k.2.1, 20, .inl (fun _ => 0))), (q_17, .inl (k.2.1, 6, .inl (fun _ => 0))), (q_18, .inl (k.2.1, 18, .inl (fun _ => 0))), (q_6, .inr (9, [.int (-1), .int 0, .int 0, .int 0, .int 0, .ref q_19, .ref q_20, .ref q_21])), (q_19, .inl (k.2.1, 30, .inl (fun _ => 0))), (q_20, .inl (k.2.1, 30, .inl (fun _ => 0))), (q_21, .inl (k.2.1, 30, .inl (fun _ => 0))), (q_22, .inl (k.1, 900, .inl (fun _ => 0))), (q_23, .inl (k.2.1, 6, .inl (fun _ => 0)))]) F hiX1 tyX1 tyX1_ok nmX1 0 rfl rfl 10 (by decide) dX1_init_39 (List.mem_of_getElem? (i := 41) rfl) rfl hnm rfl rfl rfl rfl (Nat.le_of_ble_eq_true rfl) rfl rfl ?_
  refine jy_aload_n (pc' := 43) F 0 dX1_init_42 rfl rfl rfl ?_
  refine jy_bipush (pc' := 45) (v := 6) F dX1_init_43 (by decide) rfl ?_
  refine jy_newa (pc' := 47) (N' := 6) (a0 := (6, .inl (fun _ => 0))) (cells' := 22) (slots' := 1249) (ws' := fun q_24 => [(h0, .inr (1, [.ref q_1, .int 0, .int (-1), .int (-1), .ref q_22, .int 0, .int 0, .int 0, .int 0, .int 0, .ref q_23, .null])), (q_1, .inr (4, [.int 0, .int 0, .int 0, .int 0, .ref q_4, .ref q_5, .ref q_6])), (q_4, .inr (0, [.int 0, .int 0, .int 0, .int 0, .int 0, .int 0, .ref q_7, .ref q_8, .ref q_9, .ref q_10, .ref q_11, .ref q_12])), (q_7, .inl (k.2.1, 20, .inl (fun _ => 0))), (q_8, .inl (k.2.1, 20, .inl (fun _ => 0))), (q_9, .inl (k.2.1, 20, .inl (fun _ => 0))), (q_10, .inl (k.2.1, 20, .inl (fun _ => 0))), (q_11, .inl (k.2.1, 6, .inl (fun _ => 0))), (q_12, .inl (k.2.1, 18, .inl (fun _ => 0))), (q_5, .inr (0, [.int 0, .int 0, .int 0, .int 0, .int 0, .int 0, .ref q_13, .ref q_14, .ref q_15, .ref q_16, .ref q_17, .ref q_18])), (q_13, .inl (k.2.1, 20, .inl (fun _ => 0))), (q_14, .inl (k.2.1, 20, .inl (fun _ => 0))), (q_15, .inl (k.2.1, 20, .inl (fun _ => 0))), (q_16, .inl (k.2.1, 20, .inl (fun _ => 0))), (q_17, .inl (k.2.1, 6, .inl (fun _ => 0))), (q_18, .inl (k.2.1, 18, .inl (fun _ => 0))), (q_6, .inr (9, [.int (-1), .int 0, .int 0, .int 0, .int 0, .ref q_19, .ref q_20, .ref q_21])), (q_19, .inl (k.2.1, 30, .inl (fun _ => 0))), (q_20, .inl (k.2.1, 30, .inl (fun _ => 0))), (q_21, .inl (k.2.1, 30, .inl (fun _ => 0))), (q_22, .inl (k.1, 900, .inl (fun _ => 0))), (q_23, .inl (k.2.1, 6, .inl (fun _ => 0))), (q_24, .inl (k.2.1, 6, .inl (fun _ => 0)))]) F hA 1 rfl rfl dX1_init_45 (List.mem_of_getElem? (i := 14) rfl) (fun _ => rfl) (by decide) (by decide) (by decide) rfl rfl (by decide) (by decide) (fun _ => rfl) rfl (fun q_24 => ?_)
  refine jy_putF (pc' := 50) (C := RX1) (T := TX1) (N := 12) (ci := 1) (ws' := [(h0, .inr (1, [.ref q_1, .int 0, .int (-1), .int (-1), .ref q_22, .int 0, .int 0, .int 0, .int 0, .int 0, .ref q_23, .ref q_24])), (q_1, .inr (4, [.int 0, .int 0, .int 0, .int 0, .ref q_4, .ref q_5, .ref q_6])), (q_4, .inr (0, [.int 0, .int 0, .int 0, .int 0, .int 0, .int 0, .ref q_7, .ref q_8, .ref q_9, .ref q_10, .ref q_11, .ref q_12])), (q_7, .inl (k.2.1, 20, .inl (fun _ => 0))), (q_8, .inl (k.2.1, 20, .inl (fun _ => 0))), (q_9, .inl (k.2.1, 20, .inl (fun _ => 0))), (q_10, .inl (k.2.1, 20, .inl (fun _ => 0))), (q_11, .inl (k.2.1, 6, .inl (fun _ => 0))), (q_12, .inl (k.2.1, 18, .inl (fun _ => 0))), (q_5, .inr (0, [.int 0, .int 0, .int 0, .int 0, .int 0, .int 0, .ref q_13, .ref q_14, .ref q_15, .ref q_16, .ref q_17, .ref q_18])), (q_13, .inl (k.2.1, 20, .inl (fun _ => 0))), (q_14, .inl (k.2.1, 20, .inl (fun _ => 0))), (q_15, .inl (k.2.1, 20, .inl (fun _ => 0))), (q_16, .inl (k.2.1, 20, .inl (fun _ => 0))), (q_17, .inl (k.2.1, 6, .inl (fun _ => 0))), (q_18, .inl (k.2.1, 18, .inl (fun _ => 0))), (q_6, .inr (9, [.int (-1), .int 0, .int 0, .int 0, .int 0, .ref q_19, .ref q_20, .ref q_21])), (q_19, .inl (k.2.1, 30, .inl (fun _ => 0))), (q_20, .inl (k.2.1, 30, .inl (fun _ => 0))), (q_21, .inl (k.2.1, 30, .inl (fun _ => 0))), (q_22, .inl (k.1, 900, .inl (fun _ => 0))), (q_23, .inl (k.2.1, 6, .inl (fun _ => 0))), (q_24, .inl (k.2.1, 6, .inl (fun _ => 0)))]) F hiX1 tyX1 tyX1_ok nmX1 0 rfl rfl 11 (by decide) dX1_init_47 (List.mem_of_getElem? (i := 42) rfl) rfl hnm rfl rfl rfl rfl (Nat.le_of_ble_eq_true rfl) rfl rfl ?_
  refine jy_widen (cells' := 22) (slots' := 1249) (by decide) (by decide) ?_
  exact jy_vret F hr hlk (q_1, q_22, q_23, q_24, q_4, q_5, q_6, q_7, q_8, q_9, q_10, q_11, q_12, q_13, q_14, q_15, q_16, q_17, q_18, q_19, q_20, q_21) (trivial) [0, 1, 2, 3, 4, 5, 6, 7, 8, 9, 10, 11, 12, 13, 14, 15, 16, 17, 18, 19, 20, 21, 22] rfl (by decide) dX1_init_50
theorem hdX6_init : yX6_init.cls ≠ "java/lang/invoke/MethodHandle" ∧ yX6_init.cls ≠ "java/lang/invoke/VarHandle" ∧ (parseMethodDescriptor yX6_init.desc).map (fun d => d.parameters.length) = some 1 := by decide +kernel
theorem dX6_init_0 : decode cX6_init 0 = .ok (.aload_n 0, 1) := by decide +kernel
theorem dX6_init_1 : decode cX6_init 1 = .ok (.invokespecial 3, 3) := by decide +kernel
theorem dX6_init_4 : decode cX6_init 4 = .ok (.iload_n 1, 1) := by decide +kernel
theorem dX6_init_5 : decode cX6_init 5 = .ok (.iconst 1, 1) := by decide +kernel
theorem dX6_init_6 : decode cX6_init 6 = .ok (.invokestatic 9, 3) := by decide +kernel
theorem dX6_init_9 : decode cX6_init 9 = .ok (.istore_n 2, 1) := by decide +kernel
theorem dX6_init_10 : decode cX6_init 10 = .ok (.aload_n 0, 1) := by decide +kernel
theorem dX6_init_11 : decode cX6_init 11 = .ok (.iload_n 2, 1) := by decide +kernel
theorem dX6_init_12 : decode cX6_init 12 = .ok (.newarray .int, 2) := by decide +kernel
theorem dX6_init_14 : decode cX6_init 14 = .ok (.putfield 15, 3) := by decide +kernel
theorem dX6_init_17 : decode cX6_init 17 = .ok (.aload_n 0, 1) := by decide +kernel
theorem dX6_init_18 : decode cX6_init 18 = .ok (.iload_n 2, 1) := by decide +kernel
theorem dX6_init_19 : decode cX6_init 19 = .ok (.newarray .int, 2) := by decide +kernel
theorem dX6_init_21 : decode cX6_init 21 = .ok (.putfield 21, 3) := by decide +kernel
theorem dX6_init_24 : decode cX6_init 24 = .ok (.aload_n 0, 1) := by decide +kernel
theorem dX6_init_25 : decode cX6_init 25 = .ok (.iload_n 2, 1) := by decide +kernel
theorem dX6_init_26 : decode cX6_init 26 = .ok (.newarray .int, 2) := by decide +kernel
theorem dX6_init_28 : decode cX6_init 28 = .ok (.putfield 24, 3) := by decide +kernel
theorem dX6_init_31 : decode cX6_init 31 = .ok (.aload_n 0, 1) := by decide +kernel
theorem dX6_init_32 : decode cX6_init 32 = .ok (.iload_n 2, 1) := by decide +kernel
theorem dX6_init_33 : decode cX6_init 33 = .ok (.newarray .int, 2) := by decide +kernel
theorem dX6_init_35 : decode cX6_init 35 = .ok (.putfield 27, 3) := by decide +kernel
theorem dX6_init_38 : decode cX6_init 38 = .ok (.return_, 1) := by decide +kernel
def ws_b_X6_init_576 : List Cond := .code yX6_init cX6_init 3 none :: ([.methodLink "NestedChecker$Shelf" 3 ⟨"java/lang/Object", "<init>", "()V"⟩, .instanceMethod ⟨"java/lang/Object", "<init>", "()V"⟩, .code ⟨"java/lang/Object", "<init>", "()V"⟩ object_method_1_code 1 none, .methodLink "NestedChecker$Shelf" 9 ⟨"java/lang/Math", "max", "(II)I"⟩, .static ⟨"java/lang/Math", "max", "(II)I"⟩, .initialized "java/lang/Math", .code ⟨"java/lang/Math", "max", "(II)I"⟩ Lib.Math.max.code 2 (some .int), .arrayClass .int, .fieldLink "NestedChecker$Shelf" 15 "NestedChecker$Shelf" "items" "[I", .fieldLink "NestedChecker$Shelf" 21 "NestedChecker$Shelf" "length" "[I", .fieldLink "NestedChecker$Shelf" 24 "NestedChecker$Shelf" "code" "[I", .fieldLink "NestedChecker$Shelf" 27 "NestedChecker$Shelf" "mood" "[I"] ++ wsX60)
set_option maxHeartbeats 4000000 in
set_option maxRecDepth 100000 in
theorem b_X6_init_576 (l : Launch) (D : va_G) (k : jK) (h0 : Nat) (sz : Nat)  : Met l yX6_init ws_b_X6_init_576 ({ frames := 1, cells := 4, slots := 2304, locals := 13 }) (jy_P [.ref h0, .int 576] D vwCl (jT k) jW [(h0, .inr (5, [.int 0, .null, .null, .null, .null]))] sz) (va_Qv (fun (u : Nat × Nat × Nat × Nat) => True) (jy_B D vwCl (va_A [(h0, .inr (5, [.int 0, .null, .null, .null, .null]))] sz) (fun (u : Nat × Nat × Nat × Nat) => [(h0, .inr (5, [.int 0, .ref u.1, .ref u.2.1, .ref u.2.2.1, .ref u.2.2.2])), (u.1, .inl (k.2.1, 576, .inl (fun _ => 0))), (u.2.1, .inl (k.2.1, 576, .inl (fun _ => 0))), (u.2.2.1, .inl (k.2.1, 576, .inl (fun _ => 0))), (u.2.2.2, .inl (k.2.1, 576, .inl (fun _ => 0)))])) (va_A [(h0, .inr (5, [.int 0, .null, .null, .null, .null]))] sz)) 4 2304 (va_A [(h0, .inr (5, [.int 0, .null, .null, .null, .null]))] sz) := by
  refine jy_met (cc := cX6_init) (maxL := 3) (ret := none) (lv := [(0, .ref h0), (1, .int 576)]) (by decide) rfl (Nat.le_of_ble_eq_true rfl) rfl ?_
  intro p e s m below meth c F hr hlk hnm hN hA
  have hiX6 : ∀ w ∈ u_ws RX6 TX6 5, w ∈ ws_b_X6_init_576 := fun w hw => List.mem_cons_of_mem _ (List.mem_append_right _ hw)
  refine jy_aload_n (pc' := 1) F 0 dX6_init_0 rfl rfl rfl ?_
  refine jy_objInit (pc' := 4) F dX6_init_1 (List.mem_of_getElem? (i := 1) rfl) (List.mem_of_getElem? (i := 2) rfl) (List.mem_of_getElem? (i := 3) rfl) (by decide) (Nat.le_of_ble_eq_true rfl) rfl ?_
  refine jy_iload_n (pc' := 5) F 1 dX6_init_4 rfl rfl rfl ?_
  refine jy_iconst (pc' := 6) (v := 1) F dX6_init_5 (by decide) rfl ?_
  refine jy_mmax (pc' := 9) (v := 576) F dX6_init_6 (List.mem_of_getElem? (i := 4) rfl) (List.mem_of_getElem? (i := 5) rfl) (List.mem_of_getElem? (i := 6) rfl) (List.mem_of_getElem? (i := 7) rfl) (by decide) (Nat.le_of_ble_eq_true rfl) (by decide) (by decide) (by decide) rfl ?_
  refine jy_istore_n (pc' := 10) (lv' := [(2, .int 576), (0, .ref h0), (1, .int 576)]) F dX6_init_9 rfl (by decide) rfl rfl ?_
  refine jy_aload_n (pc' := 11) F 1 dX6_init_10 rfl rfl rfl ?_
  refine jy_iload_n (pc' := 12) F 0 dX6_init_11 rfl rfl rfl ?_
  refine jy_newa (pc' := 14) (N' := 576) (a0 := (576, .inl (fun _ => 0))) (cells' := 1) (slots' := 576) (ws' := fun q_1 => [(h0, .inr (5, [.int 0, .null, .null, .null, .null])), (q_1, .inl (k.2.1, 576, .inl (fun _ => 0)))]) F hA 1 rfl rfl dX6_init_12 (List.mem_of_getElem? (i := 8) rfl) (fun _ => rfl) (by decide) (by decide) (by decide) rfl rfl (by decide) (by decide) (fun _ => rfl) rfl (fun q_1 => ?_)
  refine jy_putF (pc' := 17) (C := RX6) (T := TX6) (N := 5) (ci := 5) (ws' := [(h0, .inr (5, [.int 0, .ref q_1, .null, .null, .null])), (q_1, .inl (k.2.1, 576, .inl (fun _ => 0)))]) F hiX6 tyX6 tyX6_ok nmX6 0 rfl rfl 1 (by decide) dX6_init_14 (List.mem_of_getElem? (i := 9) rfl) rfl hnm rfl rfl rfl rfl (Nat.le_of_ble_eq_true rfl) rfl rfl ?_
  refine jy_aload_n (pc' := 18) F 1 dX6_init_17 rfl rfl rfl ?_
  refine jy_iload_n (pc' := 19) F 0 dX6_init_18 rfl rfl rfl ?_
  refine jy_newa (pc' := 21) (N' := 576) (a0 := (576, .inl (fun _ => 0))) (cells' := 2) (slots' := 1152) (ws' := fun q_2 => [(h0, .inr (5, [.int 0, .ref q_1, .null, .null, .null])), (q_1, .inl (k.2.1, 576, .inl (fun _ => 0))), (q_2, .inl (k.2.1, 576, .inl (fun _ => 0)))]) F hA 1 rfl rfl dX6_init_19 (List.mem_of_getElem? (i := 8) rfl) (fun _ => rfl) (by decide) (by decide) (by decide) rfl rfl (by decide) (by decide) (fun _ => rfl) rfl (fun q_2 => ?_)
  refine jy_putF (pc' := 24) (C := RX6) (T := TX6) (N := 5) (ci := 5) (ws' := [(h0, .inr (5, [.int 0, .ref q_1, .ref q_2, .null, .null])), (q_1, .inl (k.2.1, 576, .inl (fun _ => 0))), (q_2, .inl (k.2.1, 576, .inl (fun _ => 0)))]) F hiX6 tyX6 tyX6_ok nmX6 0 rfl rfl 2 (by decide) dX6_init_21 (List.mem_of_getElem? (i := 10) rfl) rfl hnm rfl rfl rfl rfl (Nat.le_of_ble_eq_true rfl) rfl rfl ?_
  refine jy_aload_n (pc' := 25) F 1 dX6_init_24 rfl rfl rfl ?_
  refine jy_iload_n (pc' := 26) F 0 dX6_init_25 rfl rfl rfl ?_
  refine jy_newa (pc' := 28) (N' := 576) (a0 := (576, .inl (fun _ => 0))) (cells' := 3) (slots' := 1728) (ws' := fun q_3 => [(h0, .inr (5, [.int 0, .ref q_1, .ref q_2, .null, .null])), (q_1, .inl (k.2.1, 576, .inl (fun _ => 0))), (q_2, .inl (k.2.1, 576, .inl (fun _ => 0))), (q_3, .inl (k.2.1, 576, .inl (fun _ => 0)))]) F hA 1 rfl rfl dX6_init_26 (List.mem_of_getElem? (i := 8) rfl) (fun _ => rfl) (by decide) (by decide) (by decide) rfl rfl (by decide) (by decide) (fun _ => rfl) rfl (fun q_3 => ?_)
  refine jy_putF (pc' := 31) (C := RX6) (T := TX6) (N := 5) (ci := 5) (ws' := [(h0, .inr (5, [.int 0, .ref q_1, .ref q_2, .ref q_3, .null])), (q_1, .inl (k.2.1, 576, .inl (fun _ => 0))), (q_2, .inl (k.2.1, 576, .inl (fun _ => 0))), (q_3, .inl (k.2.1, 576, .inl (fun _ => 0)))]) F hiX6 tyX6 tyX6_ok nmX6 0 rfl rfl 3 (by decide) dX6_init_28 (List.mem_of_getElem? (i := 11) rfl) rfl hnm rfl rfl rfl rfl (Nat.le_of_ble_eq_true rfl) rfl rfl ?_
  refine jy_aload_n (pc' := 32) F 1 dX6_init_31 rfl rfl rfl ?_
  refine jy_iload_n (pc' := 33) F 0 dX6_init_32 rfl rfl rfl ?_
  refine jy_newa (pc' := 35) (N' := 576) (a0 := (576, .inl (fun _ => 0))) (cells' := 4) (slots' := 2304) (ws' := fun q_4 => [(h0, .inr (5, [.int 0, .ref q_1, .ref q_2, .ref q_3, .null])), (q_1, .inl (k.2.1, 576, .inl (fun _ => 0))), (q_2, .inl (k.2.1, 576, .inl (fun _ => 0))), (q_3, .inl (k.2.1, 576, .inl (fun _ => 0))), (q_4, .inl (k.2.1, 576, .inl (fun _ => 0)))]) F hA 1 rfl rfl dX6_init_33 (List.mem_of_getElem? (i := 8) rfl) (fun _ => rfl) (by decide) (by decide) (by decide) rfl rfl (by decide) (by decide) (fun _ => rfl) rfl (fun q_4 => ?_)
  refine jy_putF (pc' := 38) (C := RX6) (T := TX6) (N := 5) (ci := 5) (ws' := [(h0, .inr (5, [.int 0, .ref q_1, .ref q_2, .ref q_3, .ref q_4])), (q_1, .inl (k.2.1, 576, .inl (fun _ => 0))), (q_2, .inl (k.2.1, 576, .inl (fun _ => 0))), (q_3, .inl (k.2.1, 576, .inl (fun _ => 0))), (q_4, .inl (k.2.1, 576, .inl (fun _ => 0)))]) F hiX6 tyX6 tyX6_ok nmX6 0 rfl rfl 4 (by decide) dX6_init_35 (List.mem_of_getElem? (i := 12) rfl) rfl hnm rfl rfl rfl rfl (Nat.le_of_ble_eq_true rfl) rfl rfl ?_
  refine jy_widen (cells' := 4) (slots' := 2304) (by decide) (by decide) ?_
  exact jy_vret F hr hlk (q_1, q_2, q_3, q_4) (trivial) [0, 1, 2, 3, 4] rfl (by decide) dX6_init_38
def ws_b_X6_init_48 : List Cond := .code yX6_init cX6_init 3 none :: ([.methodLink "NestedChecker$Shelf" 3 ⟨"java/lang/Object", "<init>", "()V"⟩, .instanceMethod ⟨"java/lang/Object", "<init>", "()V"⟩, .code ⟨"java/lang/Object", "<init>", "()V"⟩ object_method_1_code 1 none, .methodLink "NestedChecker$Shelf" 9 ⟨"java/lang/Math", "max", "(II)I"⟩, .static ⟨"java/lang/Math", "max", "(II)I"⟩, .initialized "java/lang/Math", .code ⟨"java/lang/Math", "max", "(II)I"⟩ Lib.Math.max.code 2 (some .int), .arrayClass .int, .fieldLink "NestedChecker$Shelf" 15 "NestedChecker$Shelf" "items" "[I", .fieldLink "NestedChecker$Shelf" 21 "NestedChecker$Shelf" "length" "[I", .fieldLink "NestedChecker$Shelf" 24 "NestedChecker$Shelf" "code" "[I", .fieldLink "NestedChecker$Shelf" 27 "NestedChecker$Shelf" "mood" "[I"] ++ wsX60)
set_option maxHeartbeats 4000000 in
set_option maxRecDepth 100000 in
theorem b_X6_init_48 (l : Launch) (D : va_G) (k : jK) (h0 : Nat) (sz : Nat)  : Met l yX6_init ws_b_X6_init_48 ({ frames := 1, cells := 4, slots := 192, locals := 13 }) (jy_P [.ref h0, .int 48] D vwCl (jT k) jW [(h0, .inr (5, [.int 0, .null, .null, .null, .null]))] sz) (va_Qv (fun (u : Nat × Nat × Nat × Nat) => True) (jy_B D vwCl (va_A [(h0, .inr (5, [.int 0, .null, .null, .null, .null]))] sz) (fun (u : Nat × Nat × Nat × Nat) => [(h0, .inr (5, [.int 0, .ref u.1, .ref u.2.1, .ref u.2.2.1, .ref u.2.2.2])), (u.1, .inl (k.2.1, 48, .inl (fun _ => 0))), (u.2.1, .inl (k.2.1, 48, .inl (fun _ => 0))), (u.2.2.1, .inl (k.2.1, 48, .inl (fun _ => 0))), (u.2.2.2, .inl (k.2.1, 48, .inl (fun _ => 0)))])) (va_A [(h0, .inr (5, [.int 0, .null, .null, .null, .null]))] sz)) 4 192 (va_A [(h0, .inr (5, [.int 0, .null, .null, .null, .null]))] sz) := by
  refine jy_met (cc := cX6_init) (maxL := 3) (ret := none) (lv := [(0, .ref h0), (1, .int 48)]) (by decide) rfl (Nat.le_of_ble_eq_true rfl) rfl ?_
  intro p e s m below meth c F hr hlk hnm hN hA
  have hiX6 : ∀ w ∈ u_ws RX6 TX6 5, w ∈ ws_b_X6_init_48 := fun w hw => List.mem_cons_of_mem _ (List.mem_append_right _ hw)
  refine jy_aload_n (pc' := 1) F 0 dX6_init_0 rfl rfl rfl ?_
  refine jy_objInit (pc' := 4) F dX6_init_1 (List.mem_of_getElem? (i := 1) rfl) (List.mem_of_getElem? (i := 2) rfl) (List.mem_of_getElem? (i := 3) rfl) (by decide) (Nat.le_of_ble_eq_true rfl) rfl ?_
  refine jy_iload_n (pc' := 5) F 1 dX6_init_4 rfl rfl rfl ?_
  refine jy_iconst (pc' := 6) (v := 1) F dX6_init_5 (by decide) rfl ?_
  refine jy_mmax (pc' := 9) (v := 48) F dX6_init_6 (List.mem_of_getElem? (i := 4) rfl) (List.mem_of_getElem? (i := 5) rfl) (List.mem_of_getElem? (i := 6) rfl) (List.mem_of_getElem? (i := 7) rfl) (by decide) (Nat.le_of_ble_eq_true rfl) (by decide) (by decide) (by decide) rfl ?_
  refine jy_istore_n (pc' := 10) (lv' := [(2, .int 48), (0, .ref h0), (1, .int 48)]) F dX6_init_9 rfl (by decide) rfl rfl ?_
  refine jy_aload_n (pc' := 11) F 1 dX6_init_10 rfl rfl rfl ?_
  refine jy_iload_n (pc' := 12) F 0 dX6_init_11 rfl rfl rfl ?_
  refine jy_newa (pc' := 14) (N' := 48) (a0 := (48, .inl (fun _ => 0))) (cells' := 1) (slots' := 48) (ws' := fun q_1 => [(h0, .inr (5, [.int 0, .null, .null, .null, .null])), (q_1, .inl (k.2.1, 48, .inl (fun _ => 0)))]) F hA 1 rfl rfl dX6_init_12 (List.mem_of_getElem? (i := 8) rfl) (fun _ => rfl) (by decide) (by decide) (by decide) rfl rfl (by decide) (by decide) (fun _ => rfl) rfl (fun q_1 => ?_)
  refine jy_putF (pc' := 17) (C := RX6) (T := TX6) (N := 5) (ci := 5) (ws' := [(h0, .inr (5, [.int 0, .ref q_1, .null, .null, .null])), (q_1, .inl (k.2.1, 48, .inl (fun _ => 0)))]) F hiX6 tyX6 tyX6_ok nmX6 0 rfl rfl 1 (by decide) dX6_init_14 (List.mem_of_getElem? (i := 9) rfl) rfl hnm rfl rfl rfl rfl (Nat.le_of_ble_eq_true rfl) rfl rfl ?_
  refine jy_aload_n (pc' := 18) F 1 dX6_init_17 rfl rfl rfl ?_
  refine jy_iload_n (pc' := 19) F 0 dX6_init_18 rfl rfl rfl ?_
  refine jy_newa (pc' := 21) (N' := 48) (a0 := (48, .inl (fun _ => 0))) (cells' := 2) (slots' := 96) (ws' := fun q_2 => [(h0, .inr (5, [.int 0, .ref q_1, .null, .null, .null])), (q_1, .inl (k.2.1, 48, .inl (fun _ => 0))), (q_2, .inl (k.2.1, 48, .inl (fun _ => 0)))]) F hA 1 rfl rfl dX6_init_19 (List.mem_of_getElem? (i := 8) rfl) (fun _ => rfl) (by decide) (by decide) (by decide) rfl rfl (by decide) (by decide) (fun _ => rfl) rfl (fun q_2 => ?_)
  refine jy_putF (pc' := 24) (C := RX6) (T := TX6) (N := 5) (ci := 5) (ws' := [(h0, .inr (5, [.int 0, .ref q_1, .ref q_2, .null, .null])), (q_1, .inl (k.2.1, 48, .inl (fun _ => 0))), (q_2, .inl (k.2.1, 48, .inl (fun _ => 0)))]) F hiX6 tyX6 tyX6_ok nmX6 0 rfl rfl 2 (by decide) dX6_init_21 (List.mem_of_getElem? (i := 10) rfl) rfl hnm rfl rfl rfl rfl (Nat.le_of_ble_eq_true rfl) rfl rfl ?_
  refine jy_aload_n (pc' := 25) F 1 dX6_init_24 rfl rfl rfl ?_
  refine jy_iload_n (pc' := 26) F 0 dX6_init_25 rfl rfl rfl ?_
  refine jy_newa (pc' := 28) (N' := 48) (a0 := (48, .inl (fun _ => 0))) (cells' := 3) (slots' := 144) (ws' := fun q_3 => [(h0, .inr (5, [.int 0, .ref q_1, .ref q_2, .null, .null])), (q_1, .inl (k.2.1, 48, .inl (fun _ => 0))), (q_2, .inl (k.2.1, 48, .inl (fun _ => 0))), (q_3, .inl (k.2.1, 48, .inl (fun _ => 0)))]) F hA 1 rfl rfl dX6_init_26 (List.mem_of_getElem? (i := 8) rfl) (fun _ => rfl) (by decide) (by decide) (by decide) rfl rfl (by decide) (by decide) (fun _ => rfl) rfl (fun q_3 => ?_)
  refine jy_putF (pc' := 31) (C := RX6) (T := TX6) (N := 5) (ci := 5) (ws' := [(h0, .inr (5, [.int 0, .ref q_1, .ref q_2, .ref q_3, .null])), (q_1, .inl (k.2.1, 48, .inl (fun _ => 0))), (q_2, .inl (k.2.1, 48, .inl (fun _ => 0))), (q_3, .inl (k.2.1, 48, .inl (fun _ => 0)))]) F hiX6 tyX6 tyX6_ok nmX6 0 rfl rfl 3 (by decide) dX6_init_28 (List.mem_of_getElem? (i := 11) rfl) rfl hnm rfl rfl rfl rfl (Nat.le_of_ble_eq_true rfl) rfl rfl ?_
  refine jy_aload_n (pc' := 32) F 1 dX6_init_31 rfl rfl rfl ?_
  refine jy_iload_n (pc' := 33) F 0 dX6_init_32 rfl rfl rfl ?_
  refine jy_newa (pc' := 35) (N' := 48) (a0 := (48, .inl (fun _ => 0))) (cells' := 4) (slots' := 192) (ws' := fun q_4 => [(h0, .inr (5, [.int 0, .ref q_1, .ref q_2, .ref q_3, .null])), (q_1, .inl (k.2.1, 48, .inl (fun _ => 0))), (q_2, .inl (k.2.1, 48, .inl (fun _ => 0))), (q_3, .inl (k.2.1, 48, .inl (fun _ => 0))), (q_4, .inl (k.2.1, 48, .inl (fun _ => 0)))]) F hA 1 rfl rfl dX6_init_33 (List.mem_of_getElem? (i := 8) rfl) (fun _ => rfl) (by decide) (by decide) (by decide) rfl rfl (by decide) (by decide) (fun _ => rfl) rfl (fun q_4 => ?_)
  refine jy_putF (pc' := 38) (C := RX6) (T := TX6) (N := 5) (ci := 5) (ws' := [(h0, .inr (5, [.int 0, .ref q_1, .ref q_2, .ref q_3, .ref q_4])), (q_1, .inl (k.2.1, 48, .inl (fun _ => 0))), (q_2, .inl (k.2.1, 48, .inl (fun _ => 0))), (q_3, .inl (k.2.1, 48, .inl (fun _ => 0))), (q_4, .inl (k.2.1, 48, .inl (fun _ => 0)))]) F hiX6 tyX6 tyX6_ok nmX6 0 rfl rfl 4 (by decide) dX6_init_35 (List.mem_of_getElem? (i := 12) rfl) rfl hnm rfl rfl rfl rfl (Nat.le_of_ble_eq_true rfl) rfl rfl ?_
  refine jy_widen (cells' := 4) (slots' := 192) (by decide) (by decide) ?_
  exact jy_vret F hr hlk (q_1, q_2, q_3, q_4) (trivial) [0, 1, 2, 3, 4] rfl (by decide) dX6_init_38
theorem hdX7_init : yX7_init.cls ≠ "java/lang/invoke/MethodHandle" ∧ yX7_init.cls ≠ "java/lang/invoke/VarHandle" ∧ (parseMethodDescriptor yX7_init.desc).map (fun d => d.parameters.length) = some 0 := by decide +kernel
theorem dX7_init_0 : decode cX7_init 0 = .ok (.aload_n 0, 1) := by decide +kernel
theorem dX7_init_1 : decode cX7_init 1 = .ok (.invokespecial 3, 3) := by decide +kernel
theorem dX7_init_4 : decode cX7_init 4 = .ok (.aload_n 0, 1) := by decide +kernel
theorem dX7_init_5 : decode cX7_init 5 = .ok (.bipush 40, 2) := by decide +kernel
theorem dX7_init_7 : decode cX7_init 7 = .ok (.newarray .int, 2) := by decide +kernel
theorem dX7_init_9 : decode cX7_init 9 = .ok (.putfield 9, 3) := by decide +kernel
theorem dX7_init_12 : decode cX7_init 12 = .ok (.aload_n 0, 1) := by decide +kernel
theorem dX7_init_13 : decode cX7_init 13 = .ok (.bipush 40, 2) := by decide +kernel
theorem dX7_init_15 : decode cX7_init 15 = .ok (.newarray .int, 2) := by decide +kernel
theorem dX7_init_17 : decode cX7_init 17 = .ok (.putfield 15, 3) := by decide +kernel
theorem dX7_init_20 : decode cX7_init 20 = .ok (.aload_n 0, 1) := by decide +kernel
theorem dX7_init_21 : decode cX7_init 21 = .ok (.sipush 512, 3) := by decide +kernel
theorem dX7_init_24 : decode cX7_init 24 = .ok (.newarray .int, 2) := by decide +kernel
theorem dX7_init_26 : decode cX7_init 26 = .ok (.putfield 18, 3) := by decide +kernel
theorem dX7_init_29 : decode cX7_init 29 = .ok (.aload_n 0, 1) := by decide +kernel
theorem dX7_init_30 : decode cX7_init 30 = .ok (.sipush 160, 3) := by decide +kernel
theorem dX7_init_33 : decode cX7_init 33 = .ok (.newarray .int, 2) := by decide +kernel
theorem dX7_init_35 : decode cX7_init 35 = .ok (.putfield 21, 3) := by decide +kernel
theorem dX7_init_38 : decode cX7_init 38 = .ok (.return_, 1) := by decide +kernel
def ws_b_X7_init : List Cond := .code yX7_init cX7_init 1 none :: ([.methodLink "NestedChecker$SummaryTable" 3 ⟨"java/lang/Object", "<init>", "()V"⟩, .instanceMethod ⟨"java/lang/Object", "<init>", "()V"⟩, .code ⟨"java/lang/Object", "<init>", "()V"⟩ object_method_1_code 1 none, .arrayClass .int, .fieldLink "NestedChecker$SummaryTable" 9 "NestedChecker$SummaryTable" "states" "[I", .fieldLink "NestedChecker$SummaryTable" 15 "NestedChecker$SummaryTable" "pairs" "[I", .fieldLink "NestedChecker$SummaryTable" 18 "NestedChecker$SummaryTable" "present" "[I", .fieldLink "NestedChecker$SummaryTable" 21 "NestedChecker$SummaryTable" "overs" "[I"] ++ wsX70)
set_option maxHeartbeats 4000000 in
set_option maxRecDepth 100000 in
theorem b_X7_init (l : Launch) (D : va_G) (k : jK) (h0 : Nat) (sz : Nat)  : Met l yX7_init ws_b_X7_init ({ frames := 1, cells := 4, slots := 752, locals := 12 }) (jy_P [.ref h0] D vwCl (jT k) jW [(h0, .inr (6, [.int 0, .int 0, .null, .null, .null, .null]))] sz) (va_Qv (fun (u : Nat × Nat × Nat × Nat) => True) (jy_B D vwCl (va_A [(h0, .inr (6, [.int 0, .int 0, .null, .null, .null, .null]))] sz) (fun (u : Nat × Nat × Nat × Nat) => [(h0, .inr (6, [.int 0, .int 0, .ref u.1, .ref u.2.1, .ref u.2.2.1, .ref u.2.2.2])), (u.1, .inl (k.2.1, 40, .inl (fun _ => 0))), (u.2.1, .inl (k.2.1, 40, .inl (fun _ => 0))), (u.2.2.1, .inl (k.2.1, 512, .inl (fun _ => 0))), (u.2.2.2, .inl (k.2.1, 160, .inl (fun _ => 0)))])) (va_A [(h0, .inr (6, [.int 0, .int 0, .null, .null, .null, .null]))] sz)) 4 752 (va_A [(h0, .inr (6, [.int 0, .int 0, .null, .null, .null, .null]))] sz) := by
  refine jy_met (cc := cX7_init) (maxL := 1) (ret := none) (lv := [(0, .ref h0)]) (by decide) rfl (Nat.le_of_ble_eq_true rfl) rfl ?_
  intro p e s m below meth c F hr hlk hnm hN hA
  have hiX7 : ∀ w ∈ u_ws RX7 TX7 6, w ∈ ws_b_X7_init := fun w hw => List.mem_cons_of_mem _ (List.mem_append_right _ hw)
  refine jy_aload_n (pc' := 1) F 0 dX7_init_0 rfl rfl rfl ?_
  refine jy_objInit (pc' := 4) F dX7_init_1 (List.mem_of_getElem? (i := 1) rfl) (List.mem_of_getElem? (i := 2) rfl) (List.mem_of_getElem? (i := 3) rfl) (by decide) (Nat.le_of_ble_eq_true rfl) rfl ?_
  refine jy_aload_n (pc' := 5) F 0 dX7_init_4 rfl rfl rfl ?_
  refine jy_bipush (pc' := 7) (v := 40) F dX7_init_5 (by decide) rfl ?_
  refine jy_newa (pc' := 9) (N' := 40) (a0 := (40, .inl (fun _ => 0))) (cells' := 1) (slots' := 40) (ws' := fun q_1 => [(h0, .inr (6, [.int 0, .int 0, .null, .null, .null, .null])), (q_1, .inl (k.2.1, 40, .inl (fun _ => 0)))]) F hA 1 rfl rfl dX7_init_7 (List.mem_of_getElem? (i := 4) rfl) (fun _ => rfl) (by decide) (by decide) (by decide) rfl rfl (by decide) (by decide) (fun _ => rfl) rfl (fun q_1 => ?_)
  refine jy_putF (pc' := 12) (C := RX7) (T := TX7) (N := 6) (ci := 6) (ws' := [(h0, .inr (6, [.int 0, .int 0, .ref q_1, .null, .null, .null])), (q_1, .inl (k.2.1, 40, .inl (fun _ => 0)))]) F hiX7 tyX7 tyX7_ok nmX7 0 rfl rfl 2 (by decide) dX7_init_9 (List.mem_of_getElem? (i := 5) rfl) rfl hnm rfl rfl rfl rfl (Nat.le_of_ble_eq_true rfl) rfl rfl ?_
  refine jy_aload_n (pc' := 13) F 0 dX7_init_12 rfl rfl rfl ?_
  refine jy_bipush (pc' := 15) (v := 40) F dX7_init_13 (by decide) rfl ?_
  refine jy_newa (pc' := 17) (N' := 40) (a0 := (40, .inl (fun _ => 0))) (cells' := 2) (slots' := 80) (ws' := fun q_2 => [(h0, .inr (6, [.int 0, .int 0, .ref q_1, .null, .null, .null])), (q_1, .inl (k.2.1, 40, .inl (fun _ => 0))), (q_2, .inl (k.2.1, 40, .inl (fun _ => 0)))]) F hA 1 rfl rfl dX7_init_15 (List.mem_of_getElem? (i := 4) rfl) (fun _ => rfl) (by decide) (by decide) (by decide) rfl rfl (by decide) (by decide) (fun _ => rfl) rfl (fun q_2 => ?_)
  refine jy_putF (pc' := 20) (C := RX7) (T := TX7) (N := 6) (ci := 6) (ws' := [(h0, .inr (6, [.int 0, .int 0, .ref q_1, .ref q_2, .null, .null])), (q_1, .inl (k.2.1, 40, .inl (fun _ => 0))), (q_2, .inl (k.2.1, 40, .inl (fun _ => 0)))]) F hiX7 tyX7 tyX7_ok nmX7 0 rfl rfl 3 (by decide) dX7_init_17 (List.mem_of_getElem? (i := 6) rfl) rfl hnm rfl rfl rfl rfl (Nat.le_of_ble_eq_true rfl) rfl rfl ?_
  refine jy_aload_n (pc' := 21) F 0 dX7_init_20 rfl rfl rfl ?_
  refine jy_sipush (pc' := 24) (v := 512) F dX7_init_21 (by decide) rfl ?_
  refine jy_newa (pc' := 26) (N' := 512) (a0 := (512, .inl (fun _ => 0))) (cells' := 3) (slots' := 592) (ws' := fun q_3 => [(h0, .inr (6, [.int 0, .int 0, .ref q_1, .ref q_2, .null, .null])), (q_1, .inl (k.2.1, 40, .inl (fun _ => 0))), (q_2, .inl (k.2.1, 40, .inl (fun _ => 0))), (q_3, .inl (k.2.1, 512, .inl (fun _ => 0)))]) F hA 1 rfl rfl dX7_init_24 (List.mem_of_getElem? (i := 4) rfl) (fun _ => rfl) (by decide) (by decide) (by decide) rfl rfl (by decide) (by decide) (fun _ => rfl) rfl (fun q_3 => ?_)
  refine jy_putF (pc' := 29) (C := RX7) (T := TX7) (N := 6) (ci := 6) (ws' := [(h0, .inr (6, [.int 0, .int 0, .ref q_1, .ref q_2, .ref q_3, .null])), (q_1, .inl (k.2.1, 40, .inl (fun _ => 0))), (q_2, .inl (k.2.1, 40, .inl (fun _ => 0))), (q_3, .inl (k.2.1, 512, .inl (fun _ => 0)))]) F hiX7 tyX7 tyX7_ok nmX7 0 rfl rfl 4 (by decide) dX7_init_26 (List.mem_of_getElem? (i := 7) rfl) rfl hnm rfl rfl rfl rfl (Nat.le_of_ble_eq_true rfl) rfl rfl ?_
  refine jy_aload_n (pc' := 30) F 0 dX7_init_29 rfl rfl rfl ?_
  refine jy_sipush (pc' := 33) (v := 160) F dX7_init_30 (by decide) rfl ?_
  refine jy_newa (pc' := 35) (N' := 160) (a0 := (160, .inl (fun _ => 0))) (cells' := 4) (slots' := 752) (ws' := fun q_4 => [(h0, .inr (6, [.int 0, .int 0, .ref q_1, .ref q_2, .ref q_3, .null])), (q_1, .inl (k.2.1, 40, .inl (fun _ => 0))), (q_2, .inl (k.2.1, 40, .inl (fun _ => 0))), (q_3, .inl (k.2.1, 512, .inl (fun _ => 0))), (q_4, .inl (k.2.1, 160, .inl (fun _ => 0)))]) F hA 1 rfl rfl dX7_init_33 (List.mem_of_getElem? (i := 4) rfl) (fun _ => rfl) (by decide) (by decide) (by decide) rfl rfl (by decide) (by decide) (fun _ => rfl) rfl (fun q_4 => ?_)
  refine jy_putF (pc' := 38) (C := RX7) (T := TX7) (N := 6) (ci := 6) (ws' := [(h0, .inr (6, [.int 0, .int 0, .ref q_1, .ref q_2, .ref q_3, .ref q_4])), (q_1, .inl (k.2.1, 40, .inl (fun _ => 0))), (q_2, .inl (k.2.1, 40, .inl (fun _ => 0))), (q_3, .inl (k.2.1, 512, .inl (fun _ => 0))), (q_4, .inl (k.2.1, 160, .inl (fun _ => 0)))]) F hiX7 tyX7 tyX7_ok nmX7 0 rfl rfl 5 (by decide) dX7_init_35 (List.mem_of_getElem? (i := 8) rfl) rfl hnm rfl rfl rfl rfl (Nat.le_of_ble_eq_true rfl) rfl rfl ?_
  refine jy_widen (cells' := 4) (slots' := 752) (by decide) (by decide) ?_
  exact jy_vret F hr hlk (q_1, q_2, q_3, q_4) (trivial) [0, 1, 2, 3, 4] rfl (by decide) dX7_init_38
theorem hdX8_init : yX8_init.cls ≠ "java/lang/invoke/MethodHandle" ∧ yX8_init.cls ≠ "java/lang/invoke/VarHandle" ∧ (parseMethodDescriptor yX8_init.desc).map (fun d => d.parameters.length) = some 0 := by decide +kernel
theorem dX8_init_0 : decode cX8_init 0 = .ok (.aload_n 0, 1) := by decide +kernel
theorem dX8_init_1 : decode cX8_init 1 = .ok (.invokespecial 3, 3) := by decide +kernel
theorem dX8_init_4 : decode cX8_init 4 = .ok (.aload_n 0, 1) := by decide +kernel
theorem dX8_init_5 : decode cX8_init 5 = .ok (.sipush 187, 3) := by decide +kernel
theorem dX8_init_8 : decode cX8_init 8 = .ok (.newarray .int, 2) := by decide +kernel
theorem dX8_init_10 : decode cX8_init 10 = .ok (.putfield 11, 3) := by decide +kernel
theorem dX8_init_13 : decode cX8_init 13 = .ok (.aload_n 0, 1) := by decide +kernel
theorem dX8_init_14 : decode cX8_init 14 = .ok (.sipush 187, 3) := by decide +kernel
theorem dX8_init_17 : decode cX8_init 17 = .ok (.newarray .int, 2) := by decide +kernel
theorem dX8_init_19 : decode cX8_init 19 = .ok (.putfield 15, 3) := by decide +kernel
theorem dX8_init_22 : decode cX8_init 22 = .ok (.aload_n 0, 1) := by decide +kernel
theorem dX8_init_23 : decode cX8_init 23 = .ok (.bipush 7, 2) := by decide +kernel
theorem dX8_init_25 : decode cX8_init 25 = .ok (.newarray .int, 2) := by decide +kernel
theorem dX8_init_27 : decode cX8_init 27 = .ok (.putfield 18, 3) := by decide +kernel
theorem dX8_init_30 : decode cX8_init 30 = .ok (.aload_n 0, 1) := by decide +kernel
theorem dX8_init_31 : decode cX8_init 31 = .ok (.sipush 750, 3) := by decide +kernel
theorem dX8_init_34 : decode cX8_init 34 = .ok (.newarray .int, 2) := by decide +kernel
theorem dX8_init_36 : decode cX8_init 36 = .ok (.putfield 21, 3) := by decide +kernel
theorem dX8_init_39 : decode cX8_init 39 = .ok (.aload_n 0, 1) := by decide +kernel
theorem dX8_init_40 : decode cX8_init 40 = .ok (.sipush 750, 3) := by decide +kernel
theorem dX8_init_43 : decode cX8_init 43 = .ok (.newarray .int, 2) := by decide +kernel
theorem dX8_init_45 : decode cX8_init 45 = .ok (.putfield 24, 3) := by decide +kernel
theorem dX8_init_48 : decode cX8_init 48 = .ok (.aload_n 0, 1) := by decide +kernel
theorem dX8_init_49 : decode cX8_init 49 = .ok (.bipush 7, 2) := by decide +kernel
theorem dX8_init_51 : decode cX8_init 51 = .ok (.newarray .int, 2) := by decide +kernel
theorem dX8_init_53 : decode cX8_init 53 = .ok (.putfield 27, 3) := by decide +kernel
theorem dX8_init_56 : decode cX8_init 56 = .ok (.aload_n 0, 1) := by decide +kernel
theorem dX8_init_57 : decode cX8_init 57 = .ok (.bipush 112, 2) := by decide +kernel
theorem dX8_init_59 : decode cX8_init 59 = .ok (.newarray .int, 2) := by decide +kernel
theorem dX8_init_61 : decode cX8_init 61 = .ok (.putfield 30, 3) := by decide +kernel
theorem dX8_init_64 : decode cX8_init 64 = .ok (.aload_n 0, 1) := by decide +kernel
theorem dX8_init_65 : decode cX8_init 65 = .ok (.bipush 112, 2) := by decide +kernel
theorem dX8_init_67 : decode cX8_init 67 = .ok (.newarray .int, 2) := by decide +kernel
theorem dX8_init_69 : decode cX8_init 69 = .ok (.putfield 33, 3) := by decide +kernel
theorem dX8_init_72 : decode cX8_init 72 = .ok (.return_, 1) := by decide +kernel
def ws_b_X8_init : List Cond := .code yX8_init cX8_init 1 none :: ([.methodLink "NestedChecker$Tally" 3 ⟨"java/lang/Object", "<init>", "()V"⟩, .instanceMethod ⟨"java/lang/Object", "<init>", "()V"⟩, .code ⟨"java/lang/Object", "<init>", "()V"⟩ object_method_1_code 1 none, .arrayClass .int, .fieldLink "NestedChecker$Tally" 11 "NestedChecker$Tally" "insidePairs" "[I", .fieldLink "NestedChecker$Tally" 15 "NestedChecker$Tally" "insideCode" "[I", .fieldLink "NestedChecker$Tally" 18 "NestedChecker$Tally" "insideEnd" "[I", .fieldLink "NestedChecker$Tally" 21 "NestedChecker$Tally" "blockPairs" "[I", .fieldLink "NestedChecker$Tally" 24 "NestedChecker$Tally" "blockCode" "[I", .fieldLink "NestedChecker$Tally" 27 "NestedChecker$Tally" "blockEnd" "[I", .fieldLink "NestedChecker$Tally" 30 "NestedChecker$Tally" "many" "[I", .fieldLink "NestedChecker$Tally" 33 "NestedChecker$Tally" "last" "[I"] ++ wsX80)
set_option maxHeartbeats 4000000 in
set_option maxRecDepth 100000 in
theorem b_X8_init (l : Launch) (D : va_G) (k : jK) (h0 : Nat) (sz : Nat)  : Met l yX8_init ws_b_X8_init ({ frames := 1, cells := 8, slots := 2112, locals := 12 }) (jy_P [.ref h0] D vwCl (jT k) jW [(h0, .inr (7, [.int 0, .int 0, .int 0, .int 0, .null, .null, .null, .int 0, .null, .null, .null, .null, .null]))] sz) (va_Qv (fun (u : Nat × Nat × Nat × Nat × Nat × Nat × Nat × Nat) => True) (jy_B D vwCl (va_A [(h0, .inr (7, [.int 0, .int 0, .int 0, .int 0, .null, .null, .null, .int 0, .null, .null, .null, .null, .null]))] sz) (fun (u : Nat × Nat × Nat × Nat × Nat × Nat × Nat × Nat) => [(h0, .inr (7, [.int 0, .int 0, .int 0, .int 0, .ref u.1, .ref u.2.1, .ref u.2.2.1, .int 0, .ref u.2.2.2.1, .ref u.2.2.2.2.1, .ref u.2.2.2.2.2.1, .ref u.2.2.2.2.2.2.1, .ref u.2.2.2.2.2.2.2])), (u.1, .inl (k.2.1, 187, .inl (fun _ => 0))), (u.2.1, .inl (k.2.1, 187, .inl (fun _ => 0))), (u.2.2.1, .inl (k.2.1, 7, .inl (fun _ => 0))), (u.2.2.2.1, .inl (k.2.1, 750, .inl (fun _ => 0))), (u.2.2.2.2.1, .inl (k.2.1, 750, .inl (fun _ => 0))), (u.2.2.2.2.2.1, .inl (k.2.1, 7, .inl (fun _ => 0))), (u.2.2.2.2.2.2.1, .inl (k.2.1, 112, .inl (fun _ => 0))), (u.2.2.2.2.2.2.2, .inl (k.2.1, 112, .inl (fun _ => 0)))])) (va_A [(h0, .inr (7, [.int 0, .int 0, .int 0, .int 0, .null, .null, .null, .int 0, .null, .null, .null, .null, .null]))] sz)) 8 2112 (va_A [(h0, .inr (7, [.int 0, .int 0, .int 0, .int 0, .null, .null, .null, .int 0, .null, .null, .null, .null, .null]))] sz) := by
  refine jy_met (cc := cX8_init) (maxL := 1) (ret := none) (lv := [(0, .ref h0)]) (by decide) rfl (Nat.le_of_ble_eq_true rfl) rfl ?_
  intro p e s m below meth c F hr hlk hnm hN hA
  have hiX8 : ∀ w ∈ u_ws RX8 TX8 13, w ∈ ws_b_X8_init := fun w hw => List.mem_cons_of_mem _ (List.mem_append_right _ hw)
  refine jy_aload_n (pc' := 1) F 0 dX8_init_0 rfl rfl rfl ?_
  refine jy_objInit (pc' := 4) F dX8_init_1 (List.mem_of_getElem? (i := 1) rfl) (List.mem_of_getElem? (i := 2) rfl) (List.mem_of_getElem? (i := 3) rfl) (by decide) (Nat.le_of_ble_eq_true rfl) rfl ?_
  refine jy_aload_n (pc' := 5) F 0 dX8_init_4 rfl rfl rfl ?_
  refine jy_sipush (pc' := 8) (v := 187) F dX8_init_5 (by decide) rfl ?_
  refine jy_newa (pc' := 10) (N' := 187) (a0 := (187, .inl (fun _ => 0))) (cells' := 1) (slots' := 187) (ws' := fun q_1 => [(h0, .inr (7, [.int 0, .int 0, .int 0, .int 0, .null, .null, .null, .int 0, .null, .null, .null, .null, .null])), (q_1, .inl (k.2.1, 187, .inl (fun _ => 0)))]) F hA 1 rfl rfl dX8_init_8 (List.mem_of_getElem? (i := 4) rfl) (fun _ => rfl) (by decide) (by decide) (by decide) rfl rfl (by decide) (by decide) (fun _ => rfl) rfl (fun q_1 => ?_)
  refine jy_putF (pc' := 13) (C := RX8) (T := TX8) (N := 13) (ci := 7) (ws' := [(h0, .inr (7, [.int 0, .int 0, .int 0, .int 0, .ref q_1, .null, .null, .int 0, .null, .null, .null, .null, .null])), (q_1, .inl (k.2.1, 187, .inl (fun _ => 0)))]) F hiX8 tyX8 tyX8_ok nmX8 0 rfl rfl 4 (by decide) dX8_init_10 (List.mem_of_getElem? (i := 5) rfl) rfl hnm rfl rfl rfl rfl (Nat.le_of_ble_eq_true rfl) rfl rfl ?_
  refine jy_aload_n (pc' := 14) F 0 dX8_init_13 rfl rfl rfl ?_
  refine jy_sipush (pc' := 17) (v := 187) F dX8_init_14 (by decide) rfl ?_
  refine jy_newa (pc' := 19) (N' := 187) (a0 := (187, .inl (fun _ => 0))) (cells' := 2) (slots' := 374) (ws' := fun q_2 => [(h0, .inr (7, [.int 0, .int 0, .int 0, .int 0, .ref q_1, .null, .null, .int 0, .null, .null, .null, .null, .null])), (q_1, .inl (k.2.1, 187, .inl (fun _ => 0))), (q_2, .inl (k.2.1, 187, .inl (fun _ => 0)))]) F hA 1 rfl rfl dX8_init_17 (List.mem_of_getElem? (i := 4) rfl) (fun _ => rfl) (by decide) (by decide) (by decide) rfl rfl (by decide) (by decide) (fun _ => rfl) rfl (fun q_2 => ?_)
  refine jy_putF (pc' := 22) (C := RX8) (T := TX8) (N := 13) (ci := 7) (ws' := [(h0, .inr (7, [.int 0, .int 0, .int 0, .int 0, .ref q_1, .ref q_2, .null, .int 0, .null, .null, .null, .null, .null])), (q_1, .inl (k.2.1, 187, .inl (fun _ => 0))), (q_2, .inl (k.2.1, 187, .inl (fun _ => 0)))]) F hiX8 tyX8 tyX8_ok nmX8 0 rfl rfl 5 (by decide) dX8_init_19 (List.mem_of_getElem? (i := 6) rfl) rfl hnm rfl rfl rfl rfl (Nat.le_of_ble_eq_true rfl) rfl rfl ?_
  refine jy_aload_n (pc' := 23) F 0 dX8_init_22 rfl rfl rfl ?_
  refine jy_bipush (pc' := 25) (v := 7) F dX8_init_23 (by decide) rfl ?_
  refine jy_newa (pc' := 27) (N' := 7) (a0 := (7, .inl (fun _ => 0))) (cells' := 3) (slots' := 381) (ws' := fun q_3 => [(h0, .inr (7, [.int 0, .int 0, .int 0, .int 0, .ref q_1, .ref q_2, .null, .int 0, .null, .null, .null, .null, .null])), (q_1, .inl (k.2.1, 187, .inl (fun _ => 0))), (q_2, .inl (k.2.1, 187, .inl (fun _ => 0))), (q_3, .inl (k.2.1, 7, .inl (fun _ => 0)))]) F hA 1 rfl rfl dX8_init_25 (List.mem_of_getElem? (i := 4) rfl) (fun _ => rfl) (by decide) (by decide) (by decide) rfl rfl (by decide) (by decide) (fun _ => rfl) rfl (fun q_3 => ?_)
  refine jy_putF (pc' := 30) (C := RX8) (T := TX8) (N := 13) (ci := 7) (ws' := [(h0, .inr (7, [.int 0, .int 0, .int 0, .int 0, .ref q_1, .ref q_2, .ref q_3, .int 0, .null, .null, .null, .null, .null])), (q_1, .inl (k.2.1, 187, .inl (fun _ => 0))), (q_2, .inl (k.2.1, 187, .inl (fun _ => 0))), (q_3, .inl (k.2.1, 7, .inl (fun _ => 0)))]) F hiX8 tyX8 tyX8_ok nmX8 0 rfl rfl 6 (by decide) dX8_init_27 (List.mem_of_getElem? (i := 7) rfl) rfl hnm rfl rfl rfl rfl (Nat.le_of_ble_eq_true rfl) rfl rfl ?_
  refine jy_aload_n (pc' := 31) F 0 dX8_init_30 rfl rfl rfl ?_
  refine jy_sipush (pc' := 34) (v := 750) F dX8_init_31 (by decide) rfl ?_
  refine jy_newa (pc' := 36) (N' := 750) (a0 := (750, .inl (fun _ => 0))) (cells' := 4) (slots' := 1131) (ws' := fun q_4 => [(h0, .inr (7, [.int 0, .int 0, .int 0, .int 0, .ref q_1, .ref q_2, .ref q_3, .int 0, .null, .null, .null, .null, .null])), (q_1, .inl (k.2.1, 187, .inl (fun _ => 0))), (q_2, .inl (k.2.1, 187, .inl (fun _ => 0))), (q_3, .inl (k.2.1, 7, .inl (fun _ => 0))), (q_4, .inl (k.2.1, 750, .inl (fun _ => 0)))]) F hA 1 rfl rfl dX8_init_34 (List.mem_of_getElem? (i := 4) rfl) (fun _ => rfl) (by decide) (by decide) (by decide) rfl rfl (by decide) (by decide) (fun _ => rfl) rfl (fun q_4 => ?_)
  refine jy_putF (pc' := 39) (C := RX8) (T := TX8) (N := 13) (ci := 7) (ws' := [(h0, .inr (7, [.int 0, .int 0, .int 0, .int 0, .ref q_1, .ref q_2, .ref q_3, .int 0, .ref q_4, .null, .null, .null, .null])), (q_1, .inl (k.2.1, 187, .inl (fun _ => 0))), (q_2, .inl (k.2.1, 187, .inl (fun _ => 0))), (q_3, .inl (k.2.1, 7, .inl (fun _ => 0))), (q_4, .inl (k.2.1, 750, .inl (fun _ => 0)))]) F hiX8 tyX8 tyX8_ok nmX8 0 rfl rfl 8 (by decide) dX8_init_36 (List.mem_of_getElem? (i := 8) rfl) rfl hnm rfl rfl rfl rfl (Nat.le_of_ble_eq_true rfl) rfl rfl ?_
  refine jy_aload_n (pc' := 40) F 0 dX8_init_39 rfl rfl rfl ?_
  refine jy_sipush (pc' := 43) (v := 750) F dX8_init_40 (by decide) rfl ?_
  refine jy_newa (pc' := 45) (N' := 750) (a0 := (750, .inl (fun _ => 0))) (cells' := 5) (slots' := 1881) (ws' := fun q_5 => [(h0, .inr (7, [.int 0, .int 0, .int 0, .int 0, .ref q_1, .ref q_2, .ref q_3, .int 0, .ref q_4, .null, .null, .null, .null])), (q_1, .inl (k.2.1, 187, .inl (fun _ => 0))), (q_2, .inl (k.2.1, 187, .inl (fun _ => 0))), (q_3, .inl (k.2.1, 7, .inl (fun _ => 0))), (q_4, .inl (k.2.1, 750, .inl (fun _ => 0))), (q_5, .inl (k.2.1, 750, .inl (fun _ => 0)))]) F hA 1 rfl rfl dX8_init_43 (List.mem_of_getElem? (i := 4) rfl) (fun _ => rfl) (by decide) (by decide) (by decide) rfl rfl (by decide) (by decide) (fun _ => rfl) rfl (fun q_5 => ?_)
  refine jy_putF (pc' := 48) (C := RX8) (T := TX8) (N := 13) (ci := 7) (ws' := [(h0, .inr (7, [.int 0, .int 0, .int 0, .int 0, .ref q_1, .ref q_2, .ref q_3, .int 0, .ref q_4, .ref q_5, .null, .null, .null])), (q_1, .inl (k.2.1, 187, .inl (fun _ => 0))), (q_2, .inl (k.2.1, 187, .inl (fun _ => 0))), (q_3, .inl (k.2.1, 7, .inl (fun _ => 0))), (q_4, .inl (k.2.1, 750, .inl (fun _ => 0))), (q_5, .inl (k.2.1, 750, .inl (fun _ => 0)))]) F hiX8 tyX8 tyX8_ok nmX8 0 rfl rfl 9 (by decide) dX8_init_45 (List.mem_of_getElem? (i := 9) rfl) rfl hnm rfl rfl rfl rfl (Nat.le_of_ble_eq_true rfl) rfl rfl ?_
  refine jy_aload_n (pc' := 49) F 0 dX8_init_48 rfl rfl rfl ?_
  refine jy_bipush (pc' := 51) (v := 7) F dX8_init_49 (by decide) rfl ?_
  refine jy_newa (pc' := 53) (N' := 7) (a0 := (7, .inl (fun _ => 0))) (cells' := 6) (slots' := 1888) (ws' := fun q_6 => [(h0, .inr (7, [.int 0, .int 0, .int 0, .int 0, .ref q_1, .ref q_2, .ref q_3, .int 0, .ref q_4, .ref q_5, .null, .null, .null])), (q_1, .inl (k.2.1, 187, .inl (fun _ => 0))), (q_2, .inl (k.2.1, 187, .inl (fun _ => 0))), (q_3, .inl (k.2.1, 7, .inl (fun _ => 0))), (q_4, .inl (k.2.1, 750, .inl (fun _ => 0))), (q_5, .inl (k.2.1, 750, .inl (fun _ => 0))), (q_6, .inl (k.2.1, 7, .inl (fun _ => 0)))]) F hA 1 rfl rfl dX8_init_51 (List.mem_of_getElem? (i := 4) rfl) (fun _ => rfl) (by decide) (by decide) (by decide) rfl rfl (by decide) (by decide) (fun _ => rfl) rfl (fun q_6 => ?_)
  refine jy_putF (pc' := 56) (C := RX8) (T := TX8) (N := 13) (ci := 7) (ws' := [(h0, .inr (7, [.int 0, .int 0, .int 0, .int 0, .ref q_1, .ref q_2, .ref q_3, .int 0, .ref q_4, .ref q_5, .ref q_6, .null, .null])), (q_1, .inl (k.2.1, 187, .inl (fun _ => 0))), (q_2, .inl (k.2.1, 187, .inl (fun _ => 0))), (q_3, .inl (k.2.1, 7, .inl (fun _ => 0))), (q_4, .inl (k.2.1, 750, .inl (fun _ => 0))), (q_5, .inl (k.2.1, 750, .inl (fun _ => 0))), (q_6, .inl (k.2.1, 7, .inl (fun _ => 0)))]) F hiX8 tyX8 tyX8_ok nmX8 0 rfl rfl 10 (by decide) dX8_init_53 (List.mem_of_getElem? (i := 10) rfl) rfl hnm rfl rfl rfl rfl (Nat.le_of_ble_eq_true rfl) rfl rfl ?_
  refine jy_aload_n (pc' := 57) F 0 dX8_init_56 rfl rfl rfl ?_
  refine jy_bipush (pc' := 59) (v := 112) F dX8_init_57 (by decide) rfl ?_
  refine jy_newa (pc' := 61) (N' := 112) (a0 := (112, .inl (fun _ => 0))) (cells' := 7) (slots' := 2000) (ws' := fun q_7 => [(h0, .inr (7, [.int 0, .int 0, .int 0, .int 0, .ref q_1, .ref q_2, .ref q_3, .int 0, .ref q_4, .ref q_5, .ref q_6, .null, .null])), (q_1, .inl (k.2.1, 187, .inl (fun _ => 0))), (q_2, .inl (k.2.1, 187, .inl (fun _ => 0))), (q_3, .inl (k.2.1, 7, .inl (fun _ => 0))), (q_4, .inl (k.2.1, 750, .inl (fun _ => 0))), (q_5, .inl (k.2.1, 750, .inl (fun _ => 0))), (q_6, .inl (k.2.1, 7, .inl (fun _ => 0))), (q_7, .inl (k.2.1, 112, .inl (fun _ => 0)))]) F hA 1 rfl rfl dX8_init_59 (List.mem_of_getElem? (i := 4) rfl) (fun _ => rfl) (by decide) (by decide) (by decide) rfl rfl (by decide) (by decide) (fun _ => rfl) rfl (fun q_7 => ?_)
  refine jy_putF (pc' := 64) (C := RX8) (T := TX8) (N := 13) (ci := 7) (ws' := [(h0, .inr (7, [.int 0, .int 0, .int 0, .int 0, .ref q_1, .ref q_2, .ref q_3, .int 0, .ref q_4, .ref q_5, .ref q_6, .ref q_7, .null])), (q_1, .inl (k.2.1, 187, .inl (fun _ => 0))), (q_2, .inl (k.2.1, 187, .inl (fun _ => 0))), (q_3, .inl (k.2.1, 7, .inl (fun _ => 0))), (q_4, .inl (k.2.1, 750, .inl (fun _ => 0))), (q_5, .inl (k.2.1, 750, .inl (fun _ => 0))), (q_6, .inl (k.2.1, 7, .inl (fun _ => 0))), (q_7, .inl (k.2.1, 112, .inl (fun _ => 0)))]) F hiX8 tyX8 tyX8_ok nmX8 0 rfl rfl 11 (by decide) dX8_init_61 (List.mem_of_getElem? (i := 11) rfl) rfl hnm rfl rfl rfl rfl (Nat.le_of_ble_eq_true rfl) rfl rfl ?_
  refine jy_aload_n (pc' := 65) F 0 dX8_init_64 rfl rfl rfl ?_
  refine jy_bipush (pc' := 67) (v := 112) F dX8_init_65 (by decide) rfl ?_
  refine jy_newa (pc' := 69) (N' := 112) (a0 := (112, .inl (fun _ => 0))) (cells' := 8) (slots' := 2112) (ws' := fun q_8 => [(h0, .inr (7, [.int 0, .int 0, .int 0, .int 0, .ref q_1, .ref q_2, .ref q_3, .int 0, .ref q_4, .ref q_5, .ref q_6, .ref q_7, .null])), (q_1, .inl (k.2.1, 187, .inl (fun _ => 0))), (q_2, .inl (k.2.1, 187, .inl (fun _ => 0))), (q_3, .inl (k.2.1, 7, .inl (fun _ => 0))), (q_4, .inl (k.2.1, 750, .inl (fun _ => 0))), (q_5, .inl (k.2.1, 750, .inl (fun _ => 0))), (q_6, .inl (k.2.1, 7, .inl (fun _ => 0))), (q_7, .inl (k.2.1, 112, .inl (fun _ => 0))), (q_8, .inl (k.2.1, 112, .inl (fun _ => 0)))]) F hA 1 rfl rfl dX8_init_67 (List.mem_of_getElem? (i := 4) rfl) (fun _ => rfl) (by decide) (by decide) (by decide) rfl rfl (by decide) (by decide) (fun _ => rfl) rfl (fun q_8 => ?_)
  refine jy_putF (pc' := 72) (C := RX8) (T := TX8) (N := 13) (ci := 7) (ws' := [(h0, .inr (7, [.int 0, .int 0, .int 0, .int 0, .ref q_1, .ref q_2, .ref q_3, .int 0, .ref q_4, .ref q_5, .ref q_6, .ref q_7, .ref q_8])), (q_1, .inl (k.2.1, 187, .inl (fun _ => 0))), (q_2, .inl (k.2.1, 187, .inl (fun _ => 0))), (q_3, .inl (k.2.1, 7, .inl (fun _ => 0))), (q_4, .inl (k.2.1, 750, .inl (fun _ => 0))), (q_5, .inl (k.2.1, 750, .inl (fun _ => 0))), (q_6, .inl (k.2.1, 7, .inl (fun _ => 0))), (q_7, .inl (k.2.1, 112, .inl (fun _ => 0))), (q_8, .inl (k.2.1, 112, .inl (fun _ => 0)))]) F hiX8 tyX8 tyX8_ok nmX8 0 rfl rfl 12 (by decide) dX8_init_69 (List.mem_of_getElem? (i := 12) rfl) rfl hnm rfl rfl rfl rfl (Nat.le_of_ble_eq_true rfl) rfl rfl ?_
  refine jy_widen (cells' := 8) (slots' := 2112) (by decide) (by decide) ?_
  exact jy_vret F hr hlk (q_1, q_2, q_3, q_4, q_5, q_6, q_7, q_8) (trivial) [0, 1, 2, 3, 4, 5, 6, 7, 8] rfl (by decide) dX8_init_72
theorem hdX3_init : yX3_init.cls ≠ "java/lang/invoke/MethodHandle" ∧ yX3_init.cls ≠ "java/lang/invoke/VarHandle" ∧ (parseMethodDescriptor yX3_init.desc).map (fun d => d.parameters.length) = some 0 := by decide +kernel
theorem dX3_init_0 : decode cX3_init 0 = .ok (.aload_n 0, 1) := by decide +kernel
theorem dX3_init_1 : decode cX3_init 1 = .ok (.invokespecial 3, 3) := by decide +kernel
theorem dX3_init_4 : decode cX3_init 4 = .ok (.aload_n 0, 1) := by decide +kernel
theorem dX3_init_5 : decode cX3_init 5 = .ok (.bipush 9, 2) := by decide +kernel
theorem dX3_init_7 : decode cX3_init 7 = .ok (.newarray .long, 2) := by decide +kernel
theorem dX3_init_9 : decode cX3_init 9 = .ok (.putfield 11, 3) := by decide +kernel
theorem dX3_init_12 : decode cX3_init 12 = .ok (.aload_n 0, 1) := by decide +kernel
theorem dX3_init_13 : decode cX3_init 13 = .ok (.bipush 9, 2) := by decide +kernel
theorem dX3_init_15 : decode cX3_init 15 = .ok (.newarray .long, 2) := by decide +kernel
theorem dX3_init_17 : decode cX3_init 17 = .ok (.putfield 15, 3) := by decide +kernel
theorem dX3_init_20 : decode cX3_init 20 = .ok (.aload_n 0, 1) := by decide +kernel
theorem dX3_init_21 : decode cX3_init 21 = .ok (.sipush 180, 3) := by decide +kernel
theorem dX3_init_24 : decode cX3_init 24 = .ok (.newarray .long, 2) := by decide +kernel
theorem dX3_init_26 : decode cX3_init 26 = .ok (.putfield 18, 3) := by decide +kernel
theorem dX3_init_29 : decode cX3_init 29 = .ok (.aload_n 0, 1) := by decide +kernel
theorem dX3_init_30 : decode cX3_init 30 = .ok (.bipush 20, 2) := by decide +kernel
theorem dX3_init_32 : decode cX3_init 32 = .ok (.newarray .int, 2) := by decide +kernel
theorem dX3_init_34 : decode cX3_init 34 = .ok (.putfield 21, 3) := by decide +kernel
theorem dX3_init_37 : decode cX3_init 37 = .ok (.aload_n 0, 1) := by decide +kernel
theorem dX3_init_38 : decode cX3_init 38 = .ok (.iconst 3, 1) := by decide +kernel
theorem dX3_init_39 : decode cX3_init 39 = .ok (.newarray .long, 2) := by decide +kernel
theorem dX3_init_41 : decode cX3_init 41 = .ok (.putfield 25, 3) := by decide +kernel
theorem dX3_init_44 : decode cX3_init 44 = .ok (.aload_n 0, 1) := by decide +kernel
theorem dX3_init_45 : decode cX3_init 45 = .ok (.iconst 3, 1) := by decide +kernel
theorem dX3_init_46 : decode cX3_init 46 = .ok (.newarray .long, 2) := by decide +kernel
theorem dX3_init_48 : decode cX3_init 48 = .ok (.putfield 28, 3) := by decide +kernel
theorem dX3_init_51 : decode cX3_init 51 = .ok (.return_, 1) := by decide +kernel
def ws_b_X3_init : List Cond := .code yX3_init cX3_init 1 none :: ([.methodLink "NestedChecker$RunCount" 3 ⟨"java/lang/Object", "<init>", "()V"⟩, .instanceMethod ⟨"java/lang/Object", "<init>", "()V"⟩, .code ⟨"java/lang/Object", "<init>", "()V"⟩ object_method_1_code 1 none, .arrayClass .long, .fieldLink "NestedChecker$RunCount" 11 "NestedChecker$RunCount" "now" "[J", .fieldLink "NestedChecker$RunCount" 15 "NestedChecker$RunCount" "scratch" "[J", .fieldLink "NestedChecker$RunCount" 18 "NestedChecker$RunCount" "below" "[J", .arrayClass .int, .fieldLink "NestedChecker$RunCount" 21 "NestedChecker$RunCount" "belowCall" "[I", .fieldLink "NestedChecker$RunCount" 25 "NestedChecker$RunCount" "ends" "[J", .fieldLink "NestedChecker$RunCount" 28 "NestedChecker$RunCount" "more" "[J"] ++ wsX30)
set_option maxHeartbeats 4000000 in
set_option maxRecDepth 100000 in
theorem b_X3_init (l : Launch) (D : va_G) (k : jK) (h0 : Nat) (sz : Nat)  : Met l yX3_init ws_b_X3_init ({ frames := 1, cells := 6, slots := 224, locals := 12 }) (jy_P [.ref h0] D vwCl (jT k) jW [(h0, .inr (2, [.int 0, .null, .null, .null, .null, .null, .null]))] sz) (va_Qv (fun (u : Nat × Nat × Nat × Nat × Nat × Nat) => True) (jy_B D vwCl (va_A [(h0, .inr (2, [.int 0, .null, .null, .null, .null, .null, .null]))] sz) (fun (u : Nat × Nat × Nat × Nat × Nat × Nat) => [(h0, .inr (2, [.int 0, .ref u.1, .ref u.2.1, .ref u.2.2.1, .ref u.2.2.2.1, .ref u.2.2.2.2.1, .ref u.2.2.2.2.2])), (u.1, .inl (k.2.2.1, 9, .inr (.inl (fun _ => 0)))), (u.2.1, .inl (k.2.2.1, 9, .inr (.inl (fun _ => 0)))), (u.2.2.1, .inl (k.2.2.1, 180, .inr (.inl (fun _ => 0)))), (u.2.2.2.1, .inl (k.2.1, 20, .inl (fun _ => 0))), (u.2.2.2.2.1, .inl (k.2.2.1, 3, .inr (.inl (fun _ => 0)))), (u.2.2.2.2.2, .inl (k.2.2.1, 3, .inr (.inl (fun _ => 0))))])) (va_A [(h0, .inr (2, [.int 0, .null, .null, .null, .null, .null, .null]))] sz)) 6 224 (va_A [(h0, .inr (2, [.int 0, .null, .null, .null, .null, .null, .null]))] sz) := by
  refine jy_met (cc := cX3_init) (maxL := 1) (ret := none) (lv := [(0, .ref h0)]) (by decide) rfl (Nat.le_of_ble_eq_true rfl) rfl ?_
  intro p e s m below meth c F hr hlk hnm hN hA
  have hiX3 : ∀ w ∈ u_ws RX3 TX3 7, w ∈ ws_b_X3_init := fun w hw => List.mem_cons_of_mem _ (List.mem_append_right _ hw)
  refine jy_aload_n (pc' := 1) F 0 dX3_init_0 rfl rfl rfl ?_
  refine jy_objInit (pc' := 4) F dX3_init_1 (List.mem_of_getElem? (i := 1) rfl) (List.mem_of_getElem? (i := 2) rfl) (List.mem_of_getElem? (i := 3) rfl) (by decide) (Nat.le_of_ble_eq_true rfl) rfl ?_
  refine jy_aload_n (pc' := 5) F 0 dX3_init_4 rfl rfl rfl ?_
  refine jy_bipush (pc' := 7) (v := 9) F dX3_init_5 (by decide) rfl ?_
  refine jy_newa (pc' := 9) (N' := 9) (a0 := (9, .inr (.inl (fun _ => 0)))) (cells' := 1) (slots' := 9) (ws' := fun q_1 => [(h0, .inr (2, [.int 0, .null, .null, .null, .null, .null, .null])), (q_1, .inl (k.2.2.1, 9, .inr (.inl (fun _ => 0))))]) F hA 2 rfl rfl dX3_init_7 (List.mem_of_getElem? (i := 4) rfl) (fun _ => rfl) (by decide) (by decide) (by decide) rfl rfl (by decide) (by decide) (fun _ => rfl) rfl (fun q_1 => ?_)
  refine jy_putF (pc' := 12) (C := RX3) (T := TX3) (N := 7) (ci := 2) (ws' := [(h0, .inr (2, [.int 0, .ref q_1, .null, .null, .null, .null, .null])), (q_1, .inl (k.2.2.1, 9, .inr (.inl (fun _ => 0))))]) F hiX3 tyX3 tyX3_ok nmX3 0 rfl rfl 1 (by decide) dX3_init_9 (List.mem_of_getElem? (i := 5) rfl) rfl hnm rfl rfl rfl rfl (Nat.le_of_ble_eq_true rfl) rfl rfl ?_
  refine jy_aload_n (pc' := 13) F 0 dX3_init_12 rfl rfl rfl ?_
  refine jy_bipush (pc' := 15) (v := 9) F dX3_init_13 (by decide) rfl ?_
  refine jy_newa (pc' := 17) (N' := 9) (a0 := (9, .inr (.inl (fun _ => 0)))) (cells' := 2) (slots' := 18) (ws' := fun q_2 => [(h0, .inr (2, [.int 0, .ref q_1, .null, .null, .null, .null, .null])), (q_1, .inl (k.2.2.1, 9, .inr (.inl (fun _ => 0)))), (q_2, .inl (k.2.2.1, 9, .inr (.inl (fun _ => 0))))]) F hA 2 rfl rfl dX3_init_15 (List.mem_of_getElem? (i := 4) rfl) (fun _ => rfl) (by decide) (by decide) (by decide) rfl rfl (by decide) (by decide) (fun _ => rfl) rfl (fun q_2 => ?_)
  refine jy_putF (pc' := 20) (C := RX3) (T := TX3) (N := 7) (ci := 2) (ws' := [(h0, .inr (2, [.int 0, .ref q_1, .ref q_2, .null, .null, .null, .null])), (q_1, .inl (k.2.2.1, 9, .inr (.inl (fun _ => 0)))), (q_2, .inl (k.2.2.1, 9, .inr (.inl (fun _ => 0))))]) F hiX3 tyX3 tyX3_ok nmX3 0 rfl rfl 2 (by decide) dX3_init_17 (List.mem_of_getElem? (i := 6) rfl) rfl hnm rfl rfl rfl rfl (Nat.le_of_ble_eq_true rfl) rfl rfl ?_
  refine jy_aload_n (pc' := 21) F 0 dX3_init_20 rfl rfl rfl ?_
  refine jy_sipush (pc' := 24) (v := 180) F dX3_init_21 (by decide) rfl ?_
  refine jy_newa (pc' := 26) (N' := 180) (a0 := (180, .inr (.inl (fun _ => 0)))) (cells' := 3) (slots' := 198) (ws' := fun q_3 => [(h0, .inr (2, [.int 0, .ref q_1, .ref q_2, .null, .null, .null, .null])), (q_1, .inl (k.2.2.1, 9, .inr (.inl (fun _ => 0)))), (q_2, .inl (k.2.2.1, 9, .inr (.inl (fun _ => 0)))), (q_3, .inl (k.2.2.1, 180, .inr (.inl (fun _ => 0))))]) F hA 2 rfl rfl dX3_init_24 (List.mem_of_getElem? (i := 4) rfl) (fun _ => rfl) (by decide) (by decide) (by decide) rfl rfl (by decide) (by decide) (fun _ => rfl) rfl (fun q_3 => ?_)
  refine jy_putF (pc' := 29) (C := RX3) (T := TX3) (N := 7) (ci := 2) (ws' := [(h0, .inr (2, [.int 0, .ref q_1, .ref q_2, .ref q_3, .null, .null, .null])), (q_1, .inl (k.2.2.1, 9, .inr (.inl (fun _ => 0)))), (q_2, .inl (k.2.2.1, 9, .inr (.inl (fun _ => 0)))), (q_3, .inl (k.2.2.1, 180, .inr (.inl (fun _ => 0))))]) F hiX3 tyX3 tyX3_ok nmX3 0 rfl rfl 3 (by decide) dX3_init_26 (List.mem_of_getElem? (i := 7) rfl) rfl hnm rfl rfl rfl rfl (Nat.le_of_ble_eq_true rfl) rfl rfl ?_
  refine jy_aload_n (pc' := 30) F 0 dX3_init_29 rfl rfl rfl ?_
  refine jy_bipush (pc' := 32) (v := 20) F dX3_init_30 (by decide) rfl ?_
  refine jy_newa (pc' := 34) (N' := 20) (a0 := (20, .inl (fun _ => 0))) (cells' := 4) (slots' := 218) (ws' := fun q_4 => [(h0, .inr (2, [.int 0, .ref q_1, .ref q_2, .ref q_3, .null, .null, .null])), (q_1, .inl (k.2.2.1, 9, .inr (.inl (fun _ => 0)))), (q_2, .inl (k.2.2.1, 9, .inr (.inl (fun _ => 0)))), (q_3, .inl (k.2.2.1, 180, .inr (.inl (fun _ => 0)))), (q_4, .inl (k.2.1, 20, .inl (fun _ => 0)))]) F hA 1 rfl rfl dX3_init_32 (List.mem_of_getElem? (i := 8) rfl) (fun _ => rfl) (by decide) (by decide) (by decide) rfl rfl (by decide) (by decide) (fun _ => rfl) rfl (fun q_4 => ?_)
  refine jy_putF (pc' := 37) (C := RX3) (T := TX3) (N := 7) (ci := 2) (ws' := [(h0, .inr (2, [.int 0, .ref q_1, .ref q_2, .ref q_3, .ref q_4, .null, .null])), (q_1, .inl (k.2.2.1, 9, .inr (.inl (fun _ => 0)))), (q_2, .inl (k.2.2.1, 9, .inr (.inl (fun _ => 0)))), (q_3, .inl (k.2.2.1, 180, .inr (.inl (fun _ => 0)))), (q_4, .inl (k.2.1, 20, .inl (fun _ => 0)))]) F hiX3 tyX3 tyX3_ok nmX3 0 rfl rfl 4 (by decide) dX3_init_34 (List.mem_of_getElem? (i := 9) rfl) rfl hnm rfl rfl rfl rfl (Nat.le_of_ble_eq_true rfl) rfl rfl ?_
  refine jy_aload_n (pc' := 38) F 0 dX3_init_37 rfl rfl rfl ?_
  refine jy_iconst (pc' := 39) (v := 3) F dX3_init_38 (by decide) rfl ?_
  refine jy_newa (pc' := 41) (N' := 3) (a0 := (3, .inr (.inl (fun _ => 0)))) (cells' := 5) (slots' := 221) (ws' := fun q_5 => [(h0, .inr (2, [.int 0, .ref q_1, .ref q_2, .ref q_3, .ref q_4, .null, .null])), (q_1, .inl (k.2.2.1, 9, .inr (.inl (fun _ => 0)))), (q_2, .inl (k.2.2.1, 9, .inr (.inl (fun _ => 0)))), (q_3, .inl (k.2.2.1, 180, .inr (.inl (fun _ => 0)))), (q_4, .inl (k.2.1, 20, .inl (fun _ => 0))), (q_5, .inl (k.2.2.1, 3, .inr (.inl (fun _ => 0))))]) F hA 2 rfl rfl dX3_init_39 (List.mem_of_getElem? (i := 4) rfl) (fun _ => rfl) (by decide) (by decide) (by decide) rfl rfl (by decide) (by decide) (fun _ => rfl) rfl (fun q_5 => ?_)
  refine jy_put (pc' := 44) (C := RX3) (T := TX3) (N := 7) (ci := 2) (ws' := [(h0, .inr (2, [.int 0, .ref q_1, .ref q_2, .ref q_3, .ref q_4, .ref q_5, .null])), (q_1, .inl (k.2.2.1, 9, .inr (.inl (fun _ => 0)))), (q_2, .inl (k.2.2.1, 9, .inr (.inl (fun _ => 0)))), (q_3, .inl (k.2.2.1, 180, .inr (.inl (fun _ => 0)))), (q_4, .inl (k.2.1, 20, .inl (fun _ => 0))), (q_5, .inl (k.2.2.1, 3, .inr (.inl (fun _ => 0))))]) F hiX3 tyX3 tyX3_ok nmX3 0 rfl rfl 5 (by decide) dX3_init_41 (List.mem_of_getElem? (i := 10) rfl) rfl rfl rfl rfl (Nat.le_of_ble_eq_true rfl) rfl rfl ?_
  refine jy_aload_n (pc' := 45) F 0 dX3_init_44 rfl rfl rfl ?_
  refine jy_iconst (pc' := 46) (v := 3) F dX3_init_45 (by decide) rfl ?_
  refine jy_newa (pc' := 48) (N' := 3) (a0 := (3, .inr (.inl (fun _ => 0)))) (cells' := 6) (slots' := 224) (ws' := fun q_6 => [(h0, .inr (2, [.int 0, .ref q_1, .ref q_2, .ref q_3, .ref q_4, .ref q_5, .null])), (q_1, .inl (k.2.2.1, 9, .inr (.inl (fun _ => 0)))), (q_2, .inl (k.2.2.1, 9, .inr (.inl (fun _ => 0)))), (q_3, .inl (k.2.2.1, 180, .inr (.inl (fun _ => 0)))), (q_4, .inl (k.2.1, 20, .inl (fun _ => 0))), (q_5, .inl (k.2.2.1, 3, .inr (.inl (fun _ => 0)))), (q_6, .inl (k.2.2.1, 3, .inr (.inl (fun _ => 0))))]) F hA 2 rfl rfl dX3_init_46 (List.mem_of_getElem? (i := 4) rfl) (fun _ => rfl) (by decide) (by decide) (by decide) rfl rfl (by decide) (by decide) (fun _ => rfl) rfl (fun q_6 => ?_)
  refine jy_put (pc' := 51) (C := RX3) (T := TX3) (N := 7) (ci := 2) (ws' := [(h0, .inr (2, [.int 0, .ref q_1, .ref q_2, .ref q_3, .ref q_4, .ref q_5, .ref q_6])), (q_1, .inl (k.2.2.1, 9, .inr (.inl (fun _ => 0)))), (q_2, .inl (k.2.2.1, 9, .inr (.inl (fun _ => 0)))), (q_3, .inl (k.2.2.1, 180, .inr (.inl (fun _ => 0)))), (q_4, .inl (k.2.1, 20, .inl (fun _ => 0))), (q_5, .inl (k.2.2.1, 3, .inr (.inl (fun _ => 0)))), (q_6, .inl (k.2.2.1, 3, .inr (.inl (fun _ => 0))))]) F hiX3 tyX3 tyX3_ok nmX3 0 rfl rfl 6 (by decide) dX3_init_48 (List.mem_of_getElem? (i := 11) rfl) rfl rfl rfl rfl (Nat.le_of_ble_eq_true rfl) rfl rfl ?_
  refine jy_widen (cells' := 6) (slots' := 224) (by decide) (by decide) ?_
  exact jy_vret F hr hlk (q_1, q_2, q_3, q_4, q_5, q_6) (trivial) [0, 1, 2, 3, 4, 5, 6] rfl (by decide) dX3_init_51
theorem hdX0_renew : yX0_renew.cls ≠ "java/lang/invoke/MethodHandle" ∧ yX0_renew.cls ≠ "java/lang/invoke/VarHandle" ∧ (parseMethodDescriptor yX0_renew.desc).map (fun d => d.parameters.length) = some 0 := by decide +kernel
def ws_b_X0_renew_0 : List Cond := .code yX0_renew cX0_renew 2 none :: ([.fieldLink "NestedChecker$Automaton" 24 "NestedChecker$Automaton" "step" "[I", .code ⟨"java/util/Arrays", "fill", "([II)V"⟩ cJ7_fill_53178 4 none, .initialized "java/util/Arrays", .static ⟨"java/util/Arrays", "fill", "([II)V"⟩, .methodLink "NestedChecker$Automaton" 56 ⟨"java/util/Arrays", "fill", "([II)V"⟩, .fieldLink "NestedChecker$Automaton" 27 "NestedChecker$Automaton" "stacked" "[I", .fieldLink "NestedChecker$Automaton" 46 "NestedChecker$Automaton" "rules" "I"] ++ wsX00)
set_option maxRecDepth 20000 in
theorem g_b_X0_renew_0_b_fill_6 : GoodIn ws_b_X0_renew_0 ws_b_fill_6 := goodIn_r _ [2] (by decide +kernel) (by decide +kernel)
set_option maxRecDepth 20000 in
theorem g_b_X0_renew_0_b_fill_18 : GoodIn ws_b_X0_renew_0 ws_b_fill_18 := goodIn_r _ [2] (by decide +kernel) (by decide +kernel)
set_option maxHeartbeats 4000000 in
set_option maxRecDepth 100000 in
theorem b_X0_renew_0 (l : Launch) (D : va_G) (k : jK) (h0 : Nat) (b1 : Nat) (b2 : Nat) (b3 : Nat) (b4 : Nat) (b5 : Nat) (b6 : Nat) (x1 : Int32) (x2 : Int32) (x3 : Int32) (x4 : Int32) (x6 : Int32) (g5 : Nat → Int32) (g6 : Nat → Int32) (sz : Nat)  : Met l yX0_renew ws_b_X0_renew_0 ({ frames := 1, cells := 0, slots := 0, locals := 23 }) (jy_P [.ref h0] D vwCl (jT k) jW [(h0, .inr (0, [.int x1, .int x2, .int x3, .int x4, .int 0, .int x6, .ref b1, .ref b2, .ref b3, .ref b4, .ref b5, .ref b6])), (b5, .inl (k.2.1, 6, .inl g5)), (b6, .inl (k.2.1, 18, .inl g6))] sz) (va_Qv (fun (u : Unit) => True) (jy_B D vwCl (va_A [(h0, .inr (0, [.int x1, .int x2, .int x3, .int x4, .int 0, .int x6, .ref b1, .ref b2, .ref b3, .ref b4, .ref b5, .ref b6])), (b5, .inl (k.2.1, 6, .inl g5)), (b6, .inl (k.2.1, 18, .inl g6))] sz) (fun (u : Unit) => [(h0, .inr (0, [.int x1, .int x2, .int x3, .int x4, .int 0, .int x6, .ref b1, .ref b2, .ref b3, .ref b4, .ref b5, .ref b6])), (b5, .inl (k.2.1, 6, .inl (fun j => if j < 6 then 0 else g5 j))), (b6, .inl (k.2.1, 18, .inl (fun j => if j < 18 then 0 else g6 j)))])) (va_A [(h0, .inr (0, [.int x1, .int x2, .int x3, .int x4, .int 0, .int x6, .ref b1, .ref b2, .ref b3, .ref b4, .ref b5, .ref b6])), (b5, .inl (k.2.1, 6, .inl g5)), (b6, .inl (k.2.1, 18, .inl g6))] sz)) 0 0 (va_A [(h0, .inr (0, [.int x1, .int x2, .int x3, .int x4, .int 0, .int x6, .ref b1, .ref b2, .ref b3, .ref b4, .ref b5, .ref b6])), (b5, .inl (k.2.1, 6, .inl g5)), (b6, .inl (k.2.1, 18, .inl g6))] sz) := by
  refine jy_met (cc := cX0_renew) (maxL := 2) (ret := none) (lv := [(0, .ref h0)]) (by decide) rfl (Nat.le_of_ble_eq_true rfl) rfl ?_
  intro p e s m below meth c F hr hlk hnm hN hA
  have hiX0 : ∀ w ∈ u_ws RX0 TX0 12, w ∈ ws_b_X0_renew_0 := fun w hw => List.mem_cons_of_mem _ (List.mem_append_right _ hw)
  refine jy_aload_n (pc' := 1) F 0 dX0_renew_0 rfl rfl rfl ?_
  refine jy_get (pc' := 4) (C := RX0) (T := TX0) (N := 12) (ci := 0) (v := .ref b5) F hiX0 0 rfl rfl 10 (by decide) dX0_renew_1 (List.mem_of_getElem? (i := 1) rfl) rfl rfl ?_
  refine jy_iconst (pc' := 5) (v := 0) F dX0_renew_4 (by decide) rfl ?_
  refine jy_callv (pc' := 8) (cells' := 0) (slots' := 0) (wr := [(h0, .inr (0, [.int x1, .int x2, .int x3, .int x4, .int 0, .int x6, .ref b1, .ref b2, .ref b3, .ref b4, .ref b5, .ref b6])), (b6, .inl (k.2.1, 18, .inl g6))]) hA [1] [0, 2] rfl rfl (by decide) (by decide) (jy_runS (As := [.ref b5, .int 0]) (st := []) F hN (fun sz => b_fill_6 l D k b5 g5 0 sz ) (jy_cS F g_b_X0_renew_0_b_fill_6 rfl hdJ7_fill_53178 (List.mem_of_getElem? (i := 3) rfl) (List.mem_of_getElem? (i := 5) rfl) (List.mem_of_getElem? (i := 4) rfl) rfl rfl ⟨by decide, by decide⟩) [1] rfl (by decide) rfl rfl (Nat.le_of_ble_eq_true rfl) dX0_renew_5 ⟨by decide, by decide⟩) rfl rfl rfl (fun u_1 e_2 => ?_)
  refine jy_aload_n (pc' := 9) F 0 dX0_renew_8 rfl rfl rfl ?_
  refine jy_get (pc' := 12) (C := RX0) (T := TX0) (N := 12) (ci := 0) (v := .ref b6) F hiX0 0 rfl rfl 11 (by decide) dX0_renew_9 (List.mem_of_getElem? (i := 6) rfl) rfl rfl ?_
  refine jy_iconst (pc' := 13) (v := 0) F dX0_renew_12 (by decide) rfl ?_
  refine jy_callv (pc' := 16) (cells' := 0) (slots' := 0) (wr := [(h0, .inr (0, [.int x1, .int x2, .int x3, .int x4, .int 0, .int x6, .ref b1, .ref b2, .ref b3, .ref b4, .ref b5, .ref b6])), (b5, .inl (k.2.1, 6, .inl (fun j => if j < 6 then 0 else g5 j)))]) hA [1] [0, 2] rfl rfl (by decide) (by decide) (jy_runS (As := [.ref b6, .int 0]) (st := []) F hN (fun sz => b_fill_18 l D k b6 g6 0 sz ) (jy_cS F g_b_X0_renew_0_b_fill_18 rfl hdJ7_fill_53178 (List.mem_of_getElem? (i := 3) rfl) (List.mem_of_getElem? (i := 5) rfl) (List.mem_of_getElem? (i := 4) rfl) rfl rfl ⟨by decide, by decide⟩) [1] rfl (by decide) rfl rfl (Nat.le_of_ble_eq_true rfl) dX0_renew_13 ⟨by decide, by decide⟩) rfl rfl rfl (fun u_3 e_4 => ?_)
  refine jy_iconst (pc' := 17) (v := 0) F dX0_renew_16 (by decide) rfl ?_
  refine jy_istore_n (pc' := 18) (lv' := [(1, .int 0), (0, .ref h0)]) F dX0_renew_17 rfl (by decide) rfl rfl ?_
  refine jy_iload_n (pc' := 19) F 0 dX0_renew_18 rfl rfl rfl ?_
  refine jy_aload_n (pc' := 20) F 1 dX0_renew_19 rfl rfl rfl ?_
  refine jy_get (pc' := 23) (C := RX0) (T := TX0) (N := 12) (ci := 0) (v := .int 0) F hiX0 0 rfl rfl 4 (by decide) dX0_renew_20 (List.mem_of_getElem? (i := 7) rfl) rfl rfl ?_
  refine jy_icmp_ge (pc' := 26) (tgt := 37) F dX0_renew_23 (by decide) rfl (fun _ => ?_) (fun h => absurd h (by decide))
  refine jy_widen (cells' := 0) (slots' := 0) (by decide) (by decide) ?_
  exact jy_vret F hr hlk () (trivial) [0, 1, 2] rfl (by decide) dX0_renew_37
theorem hdX0_clear : yX0_clear.cls ≠ "java/lang/invoke/MethodHandle" ∧ yX0_clear.cls ≠ "java/lang/invoke/VarHandle" ∧ (parseMethodDescriptor yX0_clear.desc).map (fun d => d.parameters.length) = some 3 := by decide +kernel
def ws_b_X0_clear : List Cond := .code yX0_clear cX0_clear 4 none :: ([.fieldLink "NestedChecker$Automaton" 30 "NestedChecker$Automaton" "calls" "I", .fieldLink "NestedChecker$Automaton" 34 "NestedChecker$Automaton" "states" "I", .fieldLink "NestedChecker$Automaton" 37 "NestedChecker$Automaton" "symbols" "I", .fieldLink "NestedChecker$Automaton" 40 "NestedChecker$Automaton" "starts" "I", .fieldLink "NestedChecker$Automaton" 43 "NestedChecker$Automaton" "accepts" "I", .fieldLink "NestedChecker$Automaton" 46 "NestedChecker$Automaton" "rules" "I", .code ⟨"NestedChecker$Automaton", "renew", "()V"⟩ cX0_renew 2 none, .fieldLink "NestedChecker$Automaton" 24 "NestedChecker$Automaton" "step" "[I", .code ⟨"java/util/Arrays", "fill", "([II)V"⟩ cJ7_fill_53178 4 none, .initialized "java/util/Arrays", .static ⟨"java/util/Arrays", "fill", "([II)V"⟩, .methodLink "NestedChecker$Automaton" 56 ⟨"java/util/Arrays", "fill", "([II)V"⟩, .fieldLink "NestedChecker$Automaton" 27 "NestedChecker$Automaton" "stacked" "[I", .initialized "NestedChecker$Automaton", .instanceMethod ⟨"NestedChecker$Automaton", "renew", "()V"⟩, .selects "NestedChecker$Automaton" ⟨"NestedChecker$Automaton", "renew", "()V"⟩ ⟨"NestedChecker$Automaton", "renew", "()V"⟩, .methodLink "NestedChecker$Automaton" 49 ⟨"NestedChecker$Automaton", "renew", "()V"⟩] ++ wsX00)
set_option maxRecDepth 20000 in
theorem g_b_X0_clear_b_X0_renew_0 : GoodIn ws_b_X0_clear ws_b_X0_renew_0 := goodIn_r _ [7, 8, 9, 10, 11, 12, 13, 6, 18, 19, 20, 21, 22, 23, 24, 25, 26, 27, 28, 29] (by decide +kernel) (by decide +kernel)
set_option maxHeartbeats 4000000 in
set_option maxRecDepth 100000 in
theorem b_X0_clear (l : Launch) (D : va_G) (k : jK) (h0 : Nat) (b1 : Nat) (b2 : Nat) (b3 : Nat) (b4 : Nat) (b5 : Nat) (b6 : Nat) (x1 : Int32) (x2 : Int32) (x3 : Int32) (x4 : Int32) (x5 : Int32) (x6 : Int32) (g5 : Nat → Int32) (g6 : Nat → Int32) (y1 : Int32) (y2 : Int32) (y3 : Int32) (sz : Nat)  : Met l yX0_clear ws_b_X0_clear ({ frames := 2, cells := 0, slots := 0, locals := 44 }) (jy_P [.ref h0, .int y1, .int y2, .int y3] D vwCl (jT k) jW [(h0, .inr (0, [.int x1, .int x2, .int x3, .int x4, .int x5, .int x6, .ref b1, .ref b2, .ref b3, .ref b4, .ref b5, .ref b6])), (b5, .inl (k.2.1, 6, .inl g5)), (b6, .inl (k.2.1, 18, .inl g6))] sz) (va_Qv (fun (u : Unit) => True) (jy_B D vwCl (va_A [(h0, .inr (0, [.int x1, .int x2, .int x3, .int x4, .int x5, .int x6, .ref b1, .ref b2, .ref b3, .ref b4, .ref b5, .ref b6])), (b5, .inl (k.2.1, 6, .inl g5)), (b6, .inl (k.2.1, 18, .inl g6))] sz) (fun (u : Unit) => [(h0, .inr (0, [.int y2, .int y3, .int 0, .int 0, .int 0, .int y1, .ref b1, .ref b2, .ref b3, .ref b4, .ref b5, .ref b6])), (b5, .inl (k.2.1, 6, .inl (fun j => if j < 6 then 0 else g5 j))), (b6, .inl (k.2.1, 18, .inl (fun j => if j < 18 then 0 else g6 j)))])) (va_A [(h0, .inr (0, [.int x1, .int x2, .int x3, .int x4, .int x5, .int x6, .ref b1, .ref b2, .ref b3, .ref b4, .ref b5, .ref b6])), (b5, .inl (k.2.1, 6, .inl g5)), (b6, .inl (k.2.1, 18, .inl g6))] sz)) 0 0 (va_A [(h0, .inr (0, [.int x1, .int x2, .int x3, .int x4, .int x5, .int x6, .ref b1, .ref b2, .ref b3, .ref b4, .ref b5, .ref b6])), (b5, .inl (k.2.1, 6, .inl g5)), (b6, .inl (k.2.1, 18, .inl g6))] sz) := by
  refine jy_met (cc := cX0_clear) (maxL := 4) (ret := none) (lv := [(0, .ref h0), (1, .int y1), (2, .int y2), (3, .int y3)]) (by decide) rfl (Nat.le_of_ble_eq_true rfl) rfl ?_
  intro p e s m below meth c F hr hlk hnm hN hA
  have hiX0 : ∀ w ∈ u_ws RX0 TX0 12, w ∈ ws_b_X0_clear := fun w hw => List.mem_cons_of_mem _ (List.mem_append_right _ hw)
  refine jy_aload_n (pc' := 1) F 0 dX0_clear_0 rfl rfl rfl ?_
  refine jy_iload_n (pc' := 2) F 1 dX0_clear_1 rfl rfl rfl ?_
  refine jy_put (pc' := 5) (C := RX0) (T := TX0) (N := 12) (ci := 0) (ws' := [(h0, .inr (0, [.int x1, .int x2, .int x3, .int x4, .int x5, .int y1, .ref b1, .ref b2, .ref b3, .ref b4, .ref b5, .ref b6])), (b5, .inl (k.2.1, 6, .inl g5)), (b6, .inl (k.2.1, 18, .inl g6))]) F hiX0 tyX0 tyX0_ok nmX0 0 rfl rfl 5 (by decide) dX0_clear_2 (List.mem_of_getElem? (i := 1) rfl) rfl rfl rfl rfl (Nat.le_of_ble_eq_true rfl) rfl rfl ?_
  refine jy_aload_n (pc' := 6) F 0 dX0_clear_5 rfl rfl rfl ?_
  refine jy_iload_n (pc' := 7) F 2 dX0_clear_6 rfl rfl rfl ?_
  refine jy_put (pc' := 10) (C := RX0) (T := TX0) (N := 12) (ci := 0) (ws' := [(h0, .inr (0, [.int y2, .int x2, .int x3, .int x4, .int x5, .int y1, .ref b1, .ref b2, .ref b3, .ref b4, .ref b5, .ref b6])), (b5, .inl (k.2.1, 6, .inl g5)), (b6, .inl (k.2.1, 18, .inl g6))]) F hiX0 tyX0 tyX0_ok nmX0 0 rfl rfl 0 (by decide) dX0_clear_7 (List.mem_of_getElem? (i := 2) rfl) rfl rfl rfl rfl (Nat.le_of_ble_eq_true rfl) rfl rfl ?_
  refine jy_aload_n (pc' := 11) F 0 dX0_clear_10 rfl rfl rfl ?_
  refine jy_iload_n (pc' := 12) F 3 dX0_clear_11 rfl rfl rfl ?_
  refine jy_put (pc' := 15) (C := RX0) (T := TX0) (N := 12) (ci := 0) (ws' := [(h0, .inr (0, [.int y2, .int y3, .int x3, .int x4, .int x5, .int y1, .ref b1, .ref b2, .ref b3, .ref b4, .ref b5, .ref b6])), (b5, .inl (k.2.1, 6, .inl g5)), (b6, .inl (k.2.1, 18, .inl g6))]) F hiX0 tyX0 tyX0_ok nmX0 0 rfl rfl 1 (by decide) dX0_clear_12 (List.mem_of_getElem? (i := 3) rfl) rfl rfl rfl rfl (Nat.le_of_ble_eq_true rfl) rfl rfl ?_
  refine jy_aload_n (pc' := 16) F 0 dX0_clear_15 rfl rfl rfl ?_
  refine jy_iconst (pc' := 17) (v := 0) F dX0_clear_16 (by decide) rfl ?_
  refine jy_put (pc' := 20) (C := RX0) (T := TX0) (N := 12) (ci := 0) (ws' := [(h0, .inr (0, [.int y2, .int y3, .int 0, .int x4, .int x5, .int y1, .ref b1, .ref b2, .ref b3, .ref b4, .ref b5, .ref b6])), (b5, .inl (k.2.1, 6, .inl g5)), (b6, .inl (k.2.1, 18, .inl g6))]) F hiX0 tyX0 tyX0_ok nmX0 0 rfl rfl 2 (by decide) dX0_clear_17 (List.mem_of_getElem? (i := 4) rfl) rfl rfl rfl rfl (Nat.le_of_ble_eq_true rfl) rfl rfl ?_
  refine jy_aload_n (pc' := 21) F 0 dX0_clear_20 rfl rfl rfl ?_
  refine jy_iconst (pc' := 22) (v := 0) F dX0_clear_21 (by decide) rfl ?_
  refine jy_put (pc' := 25) (C := RX0) (T := TX0) (N := 12) (ci := 0) (ws' := [(h0, .inr (0, [.int y2, .int y3, .int 0, .int 0, .int x5, .int y1, .ref b1, .ref b2, .ref b3, .ref b4, .ref b5, .ref b6])), (b5, .inl (k.2.1, 6, .inl g5)), (b6, .inl (k.2.1, 18, .inl g6))]) F hiX0 tyX0 tyX0_ok nmX0 0 rfl rfl 3 (by decide) dX0_clear_22 (List.mem_of_getElem? (i := 5) rfl) rfl rfl rfl rfl (Nat.le_of_ble_eq_true rfl) rfl rfl ?_
  refine jy_aload_n (pc' := 26) F 0 dX0_clear_25 rfl rfl rfl ?_
  refine jy_iconst (pc' := 27) (v := 0) F dX0_clear_26 (by decide) rfl ?_
  refine jy_put (pc' := 30) (C := RX0) (T := TX0) (N := 12) (ci := 0) (ws' := [(h0, .inr (0, [.int y2, .int y3, .int 0, .int 0, .int 0, .int y1, .ref b1, .ref b2, .ref b3, .ref b4, .ref b5, .ref b6])), (b5, .inl (k.2.1, 6, .inl g5)), (b6, .inl (k.2.1, 18, .inl g6))]) F hiX0 tyX0 tyX0_ok nmX0 0 rfl rfl 4 (by decide) dX0_clear_27 (List.mem_of_getElem? (i := 6) rfl) rfl rfl rfl rfl (Nat.le_of_ble_eq_true rfl) rfl rfl ?_
  refine jy_aload_n (pc' := 31) F 0 dX0_clear_30 rfl rfl rfl ?_
  refine jy_callv (pc' := 34) (cells' := 0) (slots' := 0) (wr := []) hA [0, 1, 2] [] rfl rfl (by decide) (by decide) (jy_runV (As := []) (b := h0) (q0 := 0) (ci := 0) (C := RX0) (T := TX0) (N := 12) (st := []) F hN (fun sz => b_X0_renew_0 l D k h0 b1 b2 b3 b4 b5 b6 y2 y3 0 0 y1 g5 g6 sz ) (jy_cV F g_b_X0_clear_b_X0_renew_0 rfl hdX0_renew (List.mem_of_getElem? (i := 14) rfl) (List.mem_of_getElem? (i := 17) rfl) (List.mem_of_getElem? (i := 15) rfl) (List.mem_of_getElem? (i := 16) rfl) rfl rfl ⟨by decide, by decide⟩) rfl rfl [0, 1, 2] rfl (by decide) rfl rfl (Nat.le_of_ble_eq_true rfl) dX0_clear_31 ⟨by decide, by decide⟩) rfl rfl rfl (fun u_1 e_2 => ?_)
  refine jy_widen (cells' := 0) (slots' := 0) (by decide) (by decide) ?_
  exact jy_vret F hr hlk () (trivial) [0, 1, 2] rfl (by decide) dX0_clear_34
theorem hdX0_takeAll : yX0_takeAll.cls ≠ "java/lang/invoke/MethodHandle" ∧ yX0_takeAll.cls ≠ "java/lang/invoke/VarHandle" ∧ (parseMethodDescriptor yX0_takeAll.desc).map (fun d => d.parameters.length) = some 0 := by decide +kernel
def ws_b_X0_takeAll : List Cond := .code yX0_takeAll cX0_takeAll 2 none :: ([.code ⟨"NestedChecker$Automaton", "clear", "(III)V"⟩ cX0_clear 4 none, .fieldLink "NestedChecker$Automaton" 30 "NestedChecker$Automaton" "calls" "I", .fieldLink "NestedChecker$Automaton" 34 "NestedChecker$Automaton" "states" "I", .fieldLink "NestedChecker$Automaton" 37 "NestedChecker$Automaton" "symbols" "I", .fieldLink "NestedChecker$Automaton" 40 "NestedChecker$Automaton" "starts" "I", .fieldLink "NestedChecker$Automaton" 43 "NestedChecker$Automaton" "accepts" "I", .fieldLink "NestedChecker$Automaton" 46 "NestedChecker$Automaton" "rules" "I", .code ⟨"NestedChecker$Automaton", "renew", "()V"⟩ cX0_renew 2 none, .fieldLink "NestedChecker$Automaton" 24 "NestedChecker$Automaton" "step" "[I", .code ⟨"java/util/Arrays", "fill", "([II)V"⟩ cJ7_fill_53178 4 none, .initialized "java/util/Arrays", .static ⟨"java/util/Arrays", "fill", "([II)V"⟩, .methodLink "NestedChecker$Automaton" 56 ⟨"java/util/Arrays", "fill", "([II)V"⟩, .fieldLink "NestedChecker$Automaton" 27 "NestedChecker$Automaton" "stacked" "[I", .initialized "NestedChecker$Automaton", .instanceMethod ⟨"NestedChecker$Automaton", "renew", "()V"⟩, .selects "NestedChecker$Automaton" ⟨"NestedChecker$Automaton", "renew", "()V"⟩ ⟨"NestedChecker$Automaton", "renew", "()V"⟩, .methodLink "NestedChecker$Automaton" 49 ⟨"NestedChecker$Automaton", "renew", "()V"⟩, .instanceMethod ⟨"NestedChecker$Automaton", "clear", "(III)V"⟩, .selects "NestedChecker$Automaton" ⟨"NestedChecker$Automaton", "clear", "(III)V"⟩ ⟨"NestedChecker$Automaton", "clear", "(III)V"⟩, .methodLink "NestedChecker$Automaton" 52 ⟨"NestedChecker$Automaton", "clear", "(III)V"⟩] ++ wsX00)
set_option maxRecDepth 20000 in
theorem g_b_X0_takeAll_b_X0_clear : GoodIn ws_b_X0_takeAll ws_b_X0_clear := goodIn_r _ [1, 2, 3, 4, 5, 6, 7, 8, 9, 10, 11, 12, 13, 14, 15, 16, 17, 18, 22, 23, 24, 25, 26, 27, 28, 29, 30, 31, 32, 33] (by decide +kernel) (by decide +kernel)
set_option maxRecDepth 20000 in
theorem g_b_X0_takeAll_b_fill_6 : GoodIn ws_b_X0_takeAll ws_b_fill_6 := goodIn_r _ [10] (by decide +kernel) (by decide +kernel)
set_option maxHeartbeats 4000000 in
set_option maxRecDepth 100000 in
theorem b_X0_takeAll (l : Launch) (D : va_G) (k : jK) (h0 : Nat) (b1 : Nat) (b2 : Nat) (b3 : Nat) (b4 : Nat) (b5 : Nat) (b6 : Nat) (x1 : Int32) (x2 : Int32) (x3 : Int32) (x4 : Int32) (x5 : Int32) (x6 : Int32) (g5 : Nat → Int32) (g6 : Nat → Int32) (sz : Nat)  : Met l yX0_takeAll ws_b_X0_takeAll ({ frames := 3, cells := 0, slots := 0, locals := 67 }) (jy_P [.ref h0] D vwCl (jT k) jW [(h0, .inr (0, [.int x1, .int x2, .int x3, .int x4, .int x5, .int x6, .ref b1, .ref b2, .ref b3, .ref b4, .ref b5, .ref b6])), (b5, .inl (k.2.1, 6, .inl g5)), (b6, .inl (k.2.1, 18, .inl g6))] sz) (va_Qv (fun (u : Unit) => True) (jy_B D vwCl (va_A [(h0, .inr (0, [.int x1, .int x2, .int x3, .int x4, .int x5, .int x6, .ref b1, .ref b2, .ref b3, .ref b4, .ref b5, .ref b6])), (b5, .inl (k.2.1, 6, .inl g5)), (b6, .inl (k.2.1, 18, .inl g6))] sz) (fun (u : Unit) => [(h0, .inr (0, [.int 1, .int 1, .int 1, .int 1, .int 0, .int 0, .ref b1, .ref b2, .ref b3, .ref b4, .ref b5, .ref b6])), (b6, .inl (k.2.1, 18, .inl (upd (upd (upd (upd (upd (upd (fun j => if j < 18 then 0 else g6 j) 0 1) 3 1) 6 1) 9 1) 12 1) 15 1))), (b5, .inl (k.2.1, 6, .inl (fun j => if j < 6 then 1 else (fun j => if j < 6 then 0 else g5 j) j)))])) (va_A [(h0, .inr (0, [.int x1, .int x2, .int x3, .int x4, .int x5, .int x6, .ref b1, .ref b2, .ref b3, .ref b4, .ref b5, .ref b6])), (b5, .inl (k.2.1, 6, .inl g5)), (b6, .inl (k.2.1, 18, .inl g6))] sz)) 0 0 (va_A [(h0, .inr (0, [.int x1, .int x2, .int x3, .int x4, .int x5, .int x6, .ref b1, .ref b2, .ref b3, .ref b4, .ref b5, .ref b6])), (b5, .inl (k.2.1, 6, .inl g5)), (b6, .inl (k.2.1, 18, .inl g6))] sz) := by
  refine jy_met (cc := cX0_takeAll) (maxL := 2) (ret := none) (lv := [(0, .ref h0)]) (by decide) rfl (Nat.le_of_ble_eq_true rfl) rfl ?_
  intro p e s m below meth c F hr hlk hnm hN hA
  have hiX0 : ∀ w ∈ u_ws RX0 TX0 12, w ∈ ws_b_X0_takeAll := fun w hw => List.mem_cons_of_mem _ (List.mem_append_right _ hw)
  refine jy_aload_n (pc' := 1) F 0 dX0_takeAll_0 rfl rfl rfl ?_
  refine jy_iconst (pc' := 2) (v := 0) F dX0_takeAll_1 (by decide) rfl ?_
  refine jy_iconst (pc' := 3) (v := 1) F dX0_takeAll_2 (by decide) rfl ?_
  refine jy_iconst (pc' := 4) (v := 1) F dX0_takeAll_3 (by decide) rfl ?_
  refine jy_callv (pc' := 7) (cells' := 0) (slots' := 0) (wr := []) hA [0, 1, 2] [] rfl rfl (by decide) (by decide) (jy_runV (As := [.int 0, .int 1, .int 1]) (b := h0) (q0 := 0) (ci := 0) (C := RX0) (T := TX0) (N := 12) (st := []) F hN (fun sz => b_X0_clear l D k h0 b1 b2 b3 b4 b5 b6 x1 x2 x3 x4 x5 x6 g5 g6 0 1 1 sz ) (jy_cV F g_b_X0_takeAll_b_X0_clear rfl hdX0_clear (List.mem_of_getElem? (i := 15) rfl) (List.mem_of_getElem? (i := 21) rfl) (List.mem_of_getElem? (i := 19) rfl) (List.mem_of_getElem? (i := 20) rfl) rfl rfl ⟨by decide, by decide⟩) rfl rfl [0, 1, 2] rfl (by decide) rfl rfl (Nat.le_of_ble_eq_true rfl) dX0_takeAll_4 ⟨by decide, by decide⟩) rfl rfl rfl (fun u_1 e_2 => ?_)
  refine jy_aload_n (pc' := 8) F 0 dX0_takeAll_7 rfl rfl rfl ?_
  refine jy_iconst (pc' := 9) (v := 1) F dX0_takeAll_8 (by decide) rfl ?_
  refine jy_put (pc' := 12) (C := RX0) (T := TX0) (N := 12) (ci := 0) (ws' := [(h0, .inr (0, [.int 1, .int 1, .int 1, .int 0, .int 0, .int 0, .ref b1, .ref b2, .ref b3, .ref b4, .ref b5, .ref b6])), (b5, .inl (k.2.1, 6, .inl (fun j => if j < 6 then 0 else g5 j))), (b6, .inl (k.2.1, 18, .inl (fun j => if j < 18 then 0 else g6 j)))]) F hiX0 tyX0 tyX0_ok nmX0 0 rfl rfl 2 (by decide) dX0_takeAll_9 (List.mem_of_getElem? (i := 5) rfl) rfl rfl rfl rfl (Nat.le_of_ble_eq_true rfl) rfl rfl ?_
  refine jy_aload_n (pc' := 13) F 0 dX0_takeAll_12 rfl rfl rfl ?_
  refine jy_iconst (pc' := 14) (v := 1) F dX0_takeAll_13 (by decide) rfl ?_
  refine jy_put (pc' := 17) (C := RX0) (T := TX0) (N := 12) (ci := 0) (ws' := [(h0, .inr (0, [.int 1, .int 1, .int 1, .int 1, .int 0, .int 0, .ref b1, .ref b2, .ref b3, .ref b4, .ref b5, .ref b6])), (b5, .inl (k.2.1, 6, .inl (fun j => if j < 6 then 0 else g5 j))), (b6, .inl (k.2.1, 18, .inl (fun j => if j < 18 then 0 else g6 j)))]) F hiX0 tyX0 tyX0_ok nmX0 0 rfl rfl 3 (by decide) dX0_takeAll_14 (List.mem_of_getElem? (i := 6) rfl) rfl rfl rfl rfl (Nat.le_of_ble_eq_true rfl) rfl rfl ?_
  refine jy_aload_n (pc' := 18) F 0 dX0_takeAll_17 rfl rfl rfl ?_
  refine jy_get (pc' := 21) (C := RX0) (T := TX0) (N := 12) (ci := 0) (v := .ref b5) F hiX0 0 rfl rfl 10 (by decide) dX0_takeAll_18 (List.mem_of_getElem? (i := 9) rfl) rfl rfl ?_
  refine jy_iconst (pc' := 22) (v := 1) F dX0_takeAll_21 (by decide) rfl ?_
  refine jy_callv (pc' := 25) (cells' := 0) (slots' := 0) (wr := [(h0, .inr (0, [.int 1, .int 1, .int 1, .int 1, .int 0, .int 0, .ref b1, .ref b2, .ref b3, .ref b4, .ref b5, .ref b6])), (b6, .inl (k.2.1, 18, .inl (fun j => if j < 18 then 0 else g6 j)))]) hA [1] [0, 2] rfl rfl (by decide) (by decide) (jy_runS (As := [.ref b5, .int 1]) (st := []) F hN (fun sz => b_fill_6 l D k b5 (fun j => if j < 6 then 0 else g5 j) 1 sz ) (jy_cS F g_b_X0_takeAll_b_fill_6 rfl hdJ7_fill_53178 (List.mem_of_getElem? (i := 11) rfl) (List.mem_of_getElem? (i := 13) rfl) (List.mem_of_getElem? (i := 12) rfl) rfl rfl ⟨by decide, by decide⟩) [1] rfl (by decide) rfl rfl (Nat.le_of_ble_eq_true rfl) dX0_takeAll_22 ⟨by decide, by decide⟩) rfl rfl rfl (fun u_3 e_4 => ?_)
  refine jy_iconst (pc' := 26) (v := 0) F dX0_takeAll_25 (by decide) rfl ?_
  refine jy_istore_n (pc' := 27) (lv' := [(1, .int 0), (0, .ref h0)]) F dX0_takeAll_26 rfl (by decide) rfl rfl ?_
  refine jy_iload_n (pc' := 28) F 0 dX0_takeAll_27 rfl rfl rfl ?_
  refine jy_bipush (pc' := 30) (v := 6) F dX0_takeAll_28 (by decide) rfl ?_
  refine jy_icmp_ge (pc' := 33) (tgt := 48) F dX0_takeAll_30 (by decide) rfl (fun h => absurd h (by decide)) (fun _ => ?_)
  refine jy_aload_n (pc' := 34) F 1 dX0_takeAll_33 rfl rfl rfl ?_
  refine jy_get (pc' := 37) (C := RX0) (T := TX0) (N := 12) (ci := 0) (v := .ref b6) F hiX0 0 rfl rfl 11 (by decide) dX0_takeAll_34 (List.mem_of_getElem? (i := 14) rfl) rfl rfl ?_
  refine jy_iload_n (pc' := 38) F 0 dX0_takeAll_37 rfl rfl rfl ?_
  refine jy_iconst (pc' := 39) (v := 3) F dX0_takeAll_38 (by decide) rfl ?_
  refine jy_imul (pc' := 40) (v := 0) F dX0_takeAll_39 (by decide) rfl ?_
  refine jy_iconst (pc' := 41) (v := 1) F dX0_takeAll_40 (by decide) rfl ?_
  refine jy_iast (pc' := 42) (g := (upd (fun j => if j < 18 then 0 else g6 j) 0 1)) (ws' := [(h0, .inr (0, [.int 1, .int 1, .int 1, .int 1, .int 0, .int 0, .ref b1, .ref b2, .ref b3, .ref b4, .ref b5, .ref b6])), (b6, .inl (k.2.1, 18, .inl (upd (fun j => if j < 18 then 0 else g6 j) 0 1))), (b5, .inl (k.2.1, 6, .inl (fun j => if j < 6 then 1 else (fun j => if j < 6 then 0 else g5 j) j)))]) F 1 1 rfl rfl dX0_takeAll_41 (vp_in_nI (n := 0) (by omega) (by omega)) rfl rfl rfl ?_
  refine jy_iinc (pc' := 45) (v := 1) (lv' := [(1, .int 1), (0, .ref h0)]) F 0 dX0_takeAll_42 rfl (by decide) (by decide) rfl rfl ?_
  refine jy_goto (tgt := 27) F dX0_takeAll_45 (by decide) ?_
  refine jy_iload_n (pc' := 28) F 0 dX0_takeAll_27 rfl rfl rfl ?_
  refine jy_bipush (pc' := 30) (v := 6) F dX0_takeAll_28 (by decide) rfl ?_
  refine jy_icmp_ge (pc' := 33) (tgt := 48) F dX0_takeAll_30 (by decide) rfl (fun h => absurd h (by decide)) (fun _ => ?_)
  refine jy_aload_n (pc' := 34) F 1 dX0_takeAll_33 rfl rfl rfl ?_
  refine jy_get (pc' := 37) (C := RX0) (T := TX0) (N := 12) (ci := 0) (v := .ref b6) F hiX0 0 rfl rfl 11 (by decide) dX0_takeAll_34 (List.mem_of_getElem? (i := 14) rfl) rfl rfl ?_
  refine jy_iload_n (pc' := 38) F 0 dX0_takeAll_37 rfl rfl rfl ?_
  refine jy_iconst (pc' := 39) (v := 3) F dX0_takeAll_38 (by decide) rfl ?_
  refine jy_imul (pc' := 40) (v := 3) F dX0_takeAll_39 (by decide) rfl ?_
  refine jy_iconst (pc' := 41) (v := 1) F dX0_takeAll_40 (by decide) rfl ?_
  refine jy_iast (pc' := 42) (g := (upd (upd (fun j => if j < 18 then 0 else g6 j) 0 1) 3 1)) (ws' := [(h0, .inr (0, [.int 1, .int 1, .int 1, .int 1, .int 0, .int 0, .ref b1, .ref b2, .ref b3, .ref b4, .ref b5, .ref b6])), (b6, .inl (k.2.1, 18, .inl (upd (upd (fun j => if j < 18 then 0 else g6 j) 0 1) 3 1))), (b5, .inl (k.2.1, 6, .inl (fun j => if j < 6 then 1 else (fun j => if j < 6 then 0 else g5 j) j)))]) F 1 1 rfl rfl dX0_takeAll_41 (vp_in_nI (n := 3) (by omega) (by omega)) rfl rfl rfl ?_
  refine jy_iinc (pc' := 45) (v := 2) (lv' := [(1, .int 2), (0, .ref h0)]) F 0 dX0_takeAll_42 rfl (by decide) (by decide) rfl rfl ?_
  refine jy_goto (tgt := 27) F dX0_takeAll_45 (by decide) ?_
  refine jy_iload_n (pc' := 28) F 0 dX0_takeAll_27 rfl rfl rfl ?_
  refine jy_bipush (pc' := 30) (v := 6) F dX0_takeAll_28 (by decide) rfl ?_
  refine jy_icmp_ge (pc' := 33) (tgt := 48) F dX0_takeAll_30 (by decide) rfl (fun h => absurd h (by decide)) (fun _ => ?_)
  refine jy_aload_n (pc' := 34) F 1 dX0_takeAll_33 rfl rfl rfl ?_
  refine jy_get (pc' := 37) (C := RX0) (T := TX0) (N := 12) (ci := 0) (v := .ref b6) F hiX0 0 rfl rfl 11 (by decide) dX0_takeAll_34 (List.mem_of_getElem? (i := 14) rfl) rfl rfl ?_
  refine jy_iload_n (pc' := 38) F 0 dX0_takeAll_37 rfl rfl rfl ?_
  refine jy_iconst (pc' := 39) (v := 3) F dX0_takeAll_38 (by decide) rfl ?_
  refine jy_imul (pc' := 40) (v := 6) F dX0_takeAll_39 (by decide) rfl ?_
  refine jy_iconst (pc' := 41) (v := 1) F dX0_takeAll_40 (by decide) rfl ?_
  refine jy_iast (pc' := 42) (g := (upd (upd (upd (fun j => if j < 18 then 0 else g6 j) 0 1) 3 1) 6 1)) (ws' := [(h0, .inr (0, [.int 1, .int 1, .int 1, .int 1, .int 0, .int 0, .ref b1, .ref b2, .ref b3, .ref b4, .ref b5, .ref b6])), (b6, .inl (k.2.1, 18, .inl (upd (upd (upd (fun j => if j < 18 then 0 else g6 j) 0 1) 3 1) 6 1))), (b5, .inl (k.2.1, 6, .inl (fun j => if j < 6 then 1 else (fun j => if j < 6 then 0 else g5 j) j)))]) F 1 1 rfl rfl dX0_takeAll_41 (vp_in_nI (n := 6) (by omega) (by omega)) rfl rfl rfl ?_
  refine jy_iinc (pc' := 45) (v := 3) (lv' := [(1, .int 3), (0, .ref h0)]) F 0 dX0_takeAll_42 rfl (by decide) (by decide) rfl rfl ?_
  refine jy_goto (tgt := 27) F dX0_takeAll_45 (by decide) ?_
  refine jy_iload_n (pc' := 28) F 0 dX0_takeAll_27 rfl rfl rfl ?_
  refine jy_bipush (pc' := 30) (v := 6) F dX0_takeAll_28 (by decide) rfl ?_
  refine jy_icmp_ge (pc' := 33) (tgt := 48) F dX0_takeAll_30 (by decide) rfl (fun h => absurd h (by decide)) (fun _ => ?_)
  refine jy_aload_n (pc' := 34) F 1 dX0_takeAll_33 rfl rfl rfl ?_
  refine jy_get (pc' := 37) (C := RX0) (T := TX0) (N := 12) (ci := 0) (v := .ref b6) F hiX0 0 rfl rfl 11 (by decide) dX0_takeAll_34 (List.mem_of_getElem? (i := 14) rfl) rfl rfl ?_
  refine jy_iload_n (pc' := 38) F 0 dX0_takeAll_37 rfl rfl rfl ?_
  refine jy_iconst (pc' := 39) (v := 3) F dX0_takeAll_38 (by decide) rfl ?_
  refine jy_imul (pc' := 40) (v := 9) F dX0_takeAll_39 (by decide) rfl ?_
  refine jy_iconst (pc' := 41) (v := 1) F dX0_takeAll_40 (by decide) rfl ?_
  refine jy_iast (pc' := 42) (g := (upd (upd (upd (upd (fun j => if j < 18 then 0 else g6 j) 0 1) 3 1) 6 1) 9 1)) (ws' := [(h0, .inr (0, [.int 1, .int 1, .int 1, .int 1, .int 0, .int 0, .ref b1, .ref b2, .ref b3, .ref b4, .ref b5, .ref b6])), (b6, .inl (k.2.1, 18, .inl (upd (upd (upd (upd (fun j => if j < 18 then 0 else g6 j) 0 1) 3 1) 6 1) 9 1))), (b5, .inl (k.2.1, 6, .inl (fun j => if j < 6 then 1 else (fun j => if j < 6 then 0 else g5 j) j)))]) F 1 1 rfl rfl dX0_takeAll_41 (vp_in_nI (n := 9) (by omega) (by omega)) rfl rfl rfl ?_
  refine jy_iinc (pc' := 45) (v := 4) (lv' := [(1, .int 4), (0, .ref h0)]) F 0 dX0_takeAll_42 rfl (by decide) (by decide) rfl rfl ?_
  refine jy_goto (tgt := 27) F dX0_takeAll_45 (by decide) ?_
  refine jy_iload_n (pc' := 28) F 0 dX0_takeAll_27 rfl rfl rfl ?_
  refine jy_bipush (pc' := 30) (v := 6) F dX0_takeAll_28 (by decide) rfl ?_
  refine jy_icmp_ge (pc' := 33) (tgt := 48) F dX0_takeAll_30 (by decide) rfl (fun h => absurd h (by decide)) (fun _ => ?_)
  refine jy_aload_n (pc' := 34) F 1 dX0_takeAll_33 rfl rfl rfl ?_
  refine jy_get (pc' := 37) (C := RX0) (T := TX0) (N := 12) (ci := 0) (v := .ref b6) F hiX0 0 rfl rfl 11 (by decide) dX0_takeAll_34 (List.mem_of_getElem? (i := 14) rfl) rfl rfl ?_
  refine jy_iload_n (pc' := 38) F 0 dX0_takeAll_37 rfl rfl rfl ?_
  refine jy_iconst (pc' := 39) (v := 3) F dX0_takeAll_38 (by decide) rfl ?_
  refine jy_imul (pc' := 40) (v := 12) F dX0_takeAll_39 (by decide) rfl ?_
  refine jy_iconst (pc' := 41) (v := 1) F dX0_takeAll_40 (by decide) rfl ?_
  refine jy_iast (pc' := 42) (g := (upd (upd (upd (upd (upd (fun j => if j < 18 then 0 else g6 j) 0 1) 3 1) 6 1) 9 1) 12 1)) (ws' := [(h0, .inr (0, [.int 1, .int 1, .int 1, .int 1, .int 0, .int 0, .ref b1, .ref b2, .ref b3, .ref b4, .ref b5, .ref b6])), (b6, .inl (k.2.1, 18, .inl (upd (upd (upd (upd (upd (fun j => if j < 18 then 0 else g6 j) 0 1) 3 1) 6 1) 9 1) 12 1))), (b5, .inl (k.2.1, 6, .inl (fun j => if j < 6 then 1 else (fun j => if j < 6 then 0 else g5 j) j)))]) F 1 1 rfl rfl dX0_takeAll_41 (vp_in_nI (n := 12) (by omega) (by omega)) rfl rfl rfl ?_
  refine jy_iinc (pc' := 45) (v := 5) (lv' := [(1, .int 5), (0, .ref h0)]) F 0 dX0_takeAll_42 rfl (by decide) (by decide) rfl rfl ?_
  refine jy_goto (tgt := 27) F dX0_takeAll_45 (by decide) ?_
  refine jy_iload_n (pc' := 28) F 0 dX0_takeAll_27 rfl rfl rfl ?_
  refine jy_bipush (pc' := 30) (v := 6) F dX0_takeAll_28 (by decide) rfl ?_
  refine jy_icmp_ge (pc' := 33) (tgt := 48) F dX0_takeAll_30 (by decide) rfl (fun h => absurd h (by decide)) (fun _ => ?_)
  refine jy_aload_n (pc' := 34) F 1 dX0_takeAll_33 rfl rfl rfl ?_
  refine jy_get (pc' := 37) (C := RX0) (T := TX0) (N := 12) (ci := 0) (v := .ref b6) F hiX0 0 rfl rfl 11 (by decide) dX0_takeAll_34 (List.mem_of_getElem? (i := 14) rfl) rfl rfl ?_
  refine jy_iload_n (pc' := 38) F 0 dX0_takeAll_37 rfl rfl rfl ?_
  refine jy_iconst (pc' := 39) (v := 3) F dX0_takeAll_38 (by decide) rfl ?_
  refine jy_imul (pc' := 40) (v := 15) F dX0_takeAll_39 (by decide) rfl ?_
  refine jy_iconst (pc' := 41) (v := 1) F dX0_takeAll_40 (by decide) rfl ?_
  refine jy_iast (pc' := 42) (g := (upd (upd (upd (upd (upd (upd (fun j => if j < 18 then 0 else g6 j) 0 1) 3 1) 6 1) 9 1) 12 1) 15 1)) (ws' := [(h0, .inr (0, [.int 1, .int 1, .int 1, .int 1, .int 0, .int 0, .ref b1, .ref b2, .ref b3, .ref b4, .ref b5, .ref b6])), (b6, .inl (k.2.1, 18, .inl (upd (upd (upd (upd (upd (upd (fun j => if j < 18 then 0 else g6 j) 0 1) 3 1) 6 1) 9 1) 12 1) 15 1))), (b5, .inl (k.2.1, 6, .inl (fun j => if j < 6 then 1 else (fun j => if j < 6 then 0 else g5 j) j)))]) F 1 1 rfl rfl dX0_takeAll_41 (vp_in_nI (n := 15) (by omega) (by omega)) rfl rfl rfl ?_
  refine jy_iinc (pc' := 45) (v := 6) (lv' := [(1, .int 6), (0, .ref h0)]) F 0 dX0_takeAll_42 rfl (by decide) (by decide) rfl rfl ?_
  refine jy_goto (tgt := 27) F dX0_takeAll_45 (by decide) ?_
  refine jy_iload_n (pc' := 28) F 0 dX0_takeAll_27 rfl rfl rfl ?_
  refine jy_bipush (pc' := 30) (v := 6) F dX0_takeAll_28 (by decide) rfl ?_
  refine jy_icmp_ge (pc' := 33) (tgt := 48) F dX0_takeAll_30 (by decide) rfl (fun _ => ?_) (fun h => absurd h (by decide))
  refine jy_widen (cells' := 0) (slots' := 0) (by decide) (by decide) ?_
  exact jy_vret F hr hlk () (trivial) [0, 1, 2] rfl (by decide) dX0_takeAll_48
theorem hdX12_plain : yX12_plain.cls ≠ "java/lang/invoke/MethodHandle" ∧ yX12_plain.cls ≠ "java/lang/invoke/VarHandle" ∧ (parseMethodDescriptor yX12_plain.desc).map (fun d => d.parameters.length) = some 1 := by decide +kernel
def ws_b_X12_plain : List Cond := .code yX12_plain cX12_plain 3 none :: ([.fieldLink "NestedCheckerModel" 7 "NestedCheckerModel" "at" "[I"] ++ wsX120)
set_option maxHeartbeats 4000000 in
set_option maxRecDepth 100000 in
theorem b_X12_plain (l : Launch) (D : va_G) (k : jK) (h0 : Nat) (b1 : Nat) (v0 : Value) (v1 : Value) (v2 : Value) (v3 : Value) (v4 : Value) (v5 : Value) (v6 : Value) (v7 : Value) (v8 : Value) (v9 : Value) (v10 : Value) (v11 : Value) (v12 : Value) (v13 : Value) (v14 : Value) (v15 : Value) (v16 : Value) (v17 : Value) (v18 : Value) (v19 : Value) (v20 : Value) (v21 : Value) (v22 : Value) (v23 : Value) (v24 : Value) (v25 : Value) (v26 : Value) (v27 : Value) (v28 : Value) (v29 : Value) (v30 : Value) (v31 : Value) (v32 : Value) (v33 : Value) (v34 : Value) (v35 : Value) (v36 : Value) (v37 : Value) (v38 : Value) (v39 : Value) (v40 : Value) (v41 : Value) (v42 : Value) (v43 : Value) (v44 : Value) (v45 : Value) (v46 : Value) (v47 : Value) (v48 : Value) (v49 : Value) (sz : Nat)  : Met l yX12_plain ws_b_X12_plain ({ frames := 0, cells := 0, slots := 0, locals := 0 }) (jy_P [.ref h0, .int 0] D vwCl (jT k) jW [(h0, .inr (11, [.ref b1, v0, v1, v2, v3, v4, v5, v6, v7, v8, v9, v10, v11, v12, v13, v14, v15, v16, v17, v18, v19, v20, v21, v22, v23, v24, v25, v26, v27, v28, v29, v30, v31, v32, v33, v34, v35, v36, v37, v38, v39, v40, v41, v42, v43, v44, v45, v46, v47, v48, v49])), (b1, .inl (k.2.1, 1360, .inl (fun _ => 0)))] sz) (va_Qv (fun (u : Unit) => True) (jy_B D vwCl (va_A [(h0, .inr (11, [.ref b1, v0, v1, v2, v3, v4, v5, v6, v7, v8, v9, v10, v11, v12, v13, v14, v15, v16, v17, v18, v19, v20, v21, v22, v23, v24, v25, v26, v27, v28, v29, v30, v31, v32, v33, v34, v35, v36, v37, v38, v39, v40, v41, v42, v43, v44, v45, v46, v47, v48, v49])), (b1, .inl (k.2.1, 1360, .inl (fun _ => 0)))] sz) (fun (u : Unit) => [(h0, .inr (11, [.ref b1, v0, v1, v2, v3, v4, v5, v6, v7, v8, v9, v10, v11, v12, v13, v14, v15, v16, v17, v18, v19, v20, v21, v22, v23, v24, v25, v26, v27, v28, v29, v30, v31, v32, v33, v34, v35, v36, v37, v38, v39, v40, v41, v42, v43, v44, v45, v46, v47, v48, v49])), (b1, .inl (k.2.1, 1360, .inl (upd (fun _ => (0 : Int32)) 4 (-1))))])) (va_A [(h0, .inr (11, [.ref b1, v0, v1, v2, v3, v4, v5, v6, v7, v8, v9, v10, v11, v12, v13, v14, v15, v16, v17, v18, v19, v20, v21, v22, v23, v24, v25, v26, v27, v28, v29, v30, v31, v32, v33, v34, v35, v36, v37, v38, v39, v40, v41, v42, v43, v44, v45, v46, v47, v48, v49])), (b1, .inl (k.2.1, 1360, .inl (fun _ => 0)))] sz)) 0 0 (va_A [(h0, .inr (11, [.ref b1, v0, v1, v2, v3, v4, v5, v6, v7, v8, v9, v10, v11, v12, v13, v14, v15, v16, v17, v18, v19, v20, v21, v22, v23, v24, v25, v26, v27, v28, v29, v30, v31, v32, v33, v34, v35, v36, v37, v38, v39, v40, v41, v42, v43, v44, v45, v46, v47, v48, v49])), (b1, .inl (k.2.1, 1360, .inl (fun _ => 0)))] sz) := by
  refine jy_met (cc := cX12_plain) (maxL := 3) (ret := none) (lv := [(0, .ref h0), (1, .int 0)]) (by decide) rfl (Nat.le_of_ble_eq_true rfl) rfl ?_
  intro p e s m below meth c F hr hlk hnm hN hA
  have hiX12 : ∀ w ∈ u_ws RX12 TX12 51, w ∈ ws_b_X12_plain := fun w hw => List.mem_cons_of_mem _ (List.mem_append_right _ hw)
  refine jy_iconst (pc' := 1) (v := 0) F dX12_plain_0 (by decide) rfl ?_
  refine jy_istore_n (pc' := 2) (lv' := [(2, .int 0), (0, .ref h0), (1, .int 0)]) F dX12_plain_1 rfl (by decide) rfl rfl ?_
  refine jy_lpick (lv' := [(2, .int 0), (0, .ref h0), (1, .int 0)]) [0, 1, 2] rfl ?_
  refine jy_loop (α := Nat → Int32) (ws := fun i_1 a_3 => [(h0, .inr (11, [.ref b1, v0, v1, v2, v3, v4, v5, v6, v7, v8, v9, v10, v11, v12, v13, v14, v15, v16, v17, v18, v19, v20, v21, v22, v23, v24, v25, v26, v27, v28, v29, v30, v31, v32, v33, v34, v35, v36, v37, v38, v39, v40, v41, v42, v43, v44, v45, v46, v47, v48, v49])), (b1, .inl (k.2.1, 1360, .inl a_3))]) (lv := fun i_1 a_3 => [(2, .int (nI i_1)), (0, .ref h0), (1, .int 0)]) (I := fun i_1 a_3 => a_3 = (fun _ => (0 : Int32))) (hi := 272) (i0 := 0) (a0 := (fun _ => 0)) (by omega) (by first | rfl | (funext j; simp)) ?_ ?_
  · rintro i_1 f_2 h_4 hv_6 ih_5
    refine jy_ws (ws' := [(h0, .inr (11, [.ref b1, v0, v1, v2, v3, v4, v5, v6, v7, v8, v9, v10, v11, v12, v13, v14, v15, v16, v17, v18, v19, v20, v21, v22, v23, v24, v25, v26, v27, v28, v29, v30, v31, v32, v33, v34, v35, v36, v37, v38, v39, v40, v41, v42, v43, v44, v45, v46, v47, v48, v49])), (b1, .inl (k.2.1, 1360, .inl f_2))]) rfl ?_
    refine jy_iload_n (pc' := 3) F 0 dX12_plain_2 rfl rfl rfl ?_
    refine jy_sipush (pc' := 6) (v := 272) F dX12_plain_3 (by decide) rfl ?_
    refine jy_icmp_ge (pc' := 9) (tgt := 24) F dX12_plain_6 (by decide) rfl (fun h => absurd h (nI_ge (a := i_1) (b := 272) (by omega) (by omega))) (fun _ => ?_)
    refine jy_aload_n (pc' := 10) F 1 dX12_plain_9 rfl rfl rfl ?_
    refine jy_get (pc' := 13) (C := RX12) (T := TX12) (N := 51) (ci := 11) (v := .ref b1) F hiX12 0 rfl rfl 0 (by decide) dX12_plain_10 (List.mem_of_getElem? (i := 1) rfl) rfl rfl ?_
    refine jy_iload_n (pc' := 14) F 2 dX12_plain_13 rfl rfl rfl ?_
    refine jy_iload_n (pc' := 15) F 0 dX12_plain_14 rfl rfl rfl ?_
    refine jy_iadd (pc' := 16) (v := (nI (0 + i_1))) F dX12_plain_15 (nI_add 0 i_1) rfl ?_
    refine jy_iconst (pc' := 17) (v := 0) F dX12_plain_16 (by decide) rfl ?_
    refine jy_iast (pc' := 18) (g := (upd f_2 (0 + i_1) 0)) (ws' := [(h0, .inr (11, [.ref b1, v0, v1, v2, v3, v4, v5, v6, v7, v8, v9, v10, v11, v12, v13, v14, v15, v16, v17, v18, v19, v20, v21, v22, v23, v24, v25, v26, v27, v28, v29, v30, v31, v32, v33, v34, v35, v36, v37, v38, v39, v40, v41, v42, v43, v44, v45, v46, v47, v48, v49])), (b1, .inl (k.2.1, 1360, .inl (upd f_2 (0 + i_1) 0)))]) F 1 1 rfl rfl dX12_plain_17 (vp_in_nI (n := 0 + i_1) (by omega) (by omega)) (by rw [nI_clamp (by omega)]) rfl rfl ?_
    refine jy_iinc (pc' := 21) (v := (nI (i_1 + 1))) (lv' := [(2, .int (nI (i_1 + 1))), (0, .ref h0), (1, .int 0)]) F 0 dX12_plain_18 rfl (nI_add i_1 1) (by decide) rfl rfl ?_
    refine jy_goto (tgt := 2) F dX12_plain_21 (by decide) ?_
    refine jy_lpick (lv' := [(2, .int (nI (i_1 + 1))), (0, .ref h0), (1, .int 0)]) [0, 1, 2] rfl ?_
    exact ih_5 ((upd f_2 (0 + i_1) 0)) (by rw [hv_6]; funext j; unfold upd; split <;> rfl)
  · rintro f_2 hv_6
    subst hv_6
    refine jy_ws (ws' := [(h0, .inr (11, [.ref b1, v0, v1, v2, v3, v4, v5, v6, v7, v8, v9, v10, v11, v12, v13, v14, v15, v16, v17, v18, v19, v20, v21, v22, v23, v24, v25, v26, v27, v28, v29, v30, v31, v32, v33, v34, v35, v36, v37, v38, v39, v40, v41, v42, v43, v44, v45, v46, v47, v48, v49])), (b1, .inl (k.2.1, 1360, .inl (fun _ => (0 : Int32))))]) rfl ?_
    refine jy_iload_n (pc' := 3) F 0 dX12_plain_2 rfl rfl rfl ?_
    refine jy_sipush (pc' := 6) (v := 272) F dX12_plain_3 (by decide) rfl ?_
    refine jy_icmp_ge (pc' := 9) (tgt := 24) F dX12_plain_6 (by decide) rfl (fun _ => ?_) (fun h => absurd (nI_le (a := 272) (b := 272) (by omega) (by omega)) h)
    refine jy_aload_n (pc' := 25) F 1 dX12_plain_24 rfl rfl rfl ?_
    refine jy_get (pc' := 28) (C := RX12) (T := TX12) (N := 51) (ci := 11) (v := .ref b1) F hiX12 0 rfl rfl 0 (by decide) dX12_plain_25 (List.mem_of_getElem? (i := 1) rfl) rfl rfl ?_
    refine jy_iload_n (pc' := 29) F 2 dX12_plain_28 rfl rfl rfl ?_
    refine jy_iconst (pc' := 30) (v := 4) F dX12_plain_29 (by decide) rfl ?_
    refine jy_iadd (pc' := 31) (v := 4) F dX12_plain_30 (by decide) rfl ?_
    refine jy_iconst (pc' := 32) (v := (-1)) F dX12_plain_31 (by decide) rfl ?_
    refine jy_iast (pc' := 33) (g := (upd (fun _ => (0 : Int32)) 4 (-1))) (ws' := [(h0, .inr (11, [.ref b1, v0, v1, v2, v3, v4, v5, v6, v7, v8, v9, v10, v11, v12, v13, v14, v15, v16, v17, v18, v19, v20, v21, v22, v23, v24, v25, v26, v27, v28, v29, v30, v31, v32, v33, v34, v35, v36, v37, v38, v39, v40, v41, v42, v43, v44, v45, v46, v47, v48, v49])), (b1, .inl (k.2.1, 1360, .inl (upd (fun _ => (0 : Int32)) 4 (-1))))]) F 1 1 rfl rfl dX12_plain_32 (vp_in_nI (n := 4) (by omega) (by omega)) rfl rfl rfl ?_
    refine jy_widen (cells' := 0) (slots' := 0) (by decide) (by decide) ?_
    exact jy_vret F hr hlk () (trivial) [0, 1] rfl (by decide) dX12_plain_33
