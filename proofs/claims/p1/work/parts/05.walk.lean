abbrev cX10_init : ByteArray := prog_12_method_1_code
def yX10_init : MethodName := ⟨RX10, "<init>", "()V"⟩
theorem hdX10_init : yX10_init.cls ≠ "java/lang/invoke/MethodHandle" ∧ yX10_init.cls ≠ "java/lang/invoke/VarHandle" ∧ (parseMethodDescriptor yX10_init.desc).map (fun d => d.parameters.length) = some 0 := by decide +kernel
theorem dX10_init_0 : decode cX10_init 0 = .ok (.aload_n 0, 1) := by decide +kernel
theorem dX10_init_1 : decode cX10_init 1 = .ok (.invokespecial 3, 3) := by decide +kernel
theorem dX10_init_4 : decode cX10_init 4 = .ok (.aload_n 0, 1) := by decide +kernel
theorem dX10_init_5 : decode cX10_init 5 = .ok (.iconst (-1), 1) := by decide +kernel
theorem dX10_init_6 : decode cX10_init 6 = .ok (.putfield 9, 3) := by decide +kernel
theorem dX10_init_9 : decode cX10_init 9 = .ok (.aload_n 0, 1) := by decide +kernel
theorem dX10_init_10 : decode cX10_init 10 = .ok (.bipush 30, 2) := by decide +kernel
theorem dX10_init_12 : decode cX10_init 12 = .ok (.newarray .int, 2) := by decide +kernel
theorem dX10_init_14 : decode cX10_init 14 = .ok (.putfield 15, 3) := by decide +kernel
theorem dX10_init_17 : decode cX10_init 17 = .ok (.aload_n 0, 1) := by decide +kernel
theorem dX10_init_18 : decode cX10_init 18 = .ok (.bipush 30, 2) := by decide +kernel
theorem dX10_init_20 : decode cX10_init 20 = .ok (.newarray .int, 2) := by decide +kernel
theorem dX10_init_22 : decode cX10_init 22 = .ok (.putfield 19, 3) := by decide +kernel
theorem dX10_init_25 : decode cX10_init 25 = .ok (.aload_n 0, 1) := by decide +kernel
theorem dX10_init_26 : decode cX10_init 26 = .ok (.bipush 30, 2) := by decide +kernel
theorem dX10_init_28 : decode cX10_init 28 = .ok (.newarray .int, 2) := by decide +kernel
theorem dX10_init_30 : decode cX10_init 30 = .ok (.putfield 22, 3) := by decide +kernel
theorem dX10_init_33 : decode cX10_init 33 = .ok (.return_, 1) := by decide +kernel
def ws_c_X10_init : List Cond := .code yX10_init cX10_init 1 none :: ([.methodLink "NestedChecker$Walk" 3 ⟨"java/lang/Object", "<init>", "()V"⟩, .instanceMethod ⟨"java/lang/Object", "<init>", "()V"⟩, .code ⟨"java/lang/Object", "<init>", "()V"⟩ object_method_1_code 1 none, .fieldLink "NestedChecker$Walk" 9 "NestedChecker$Walk" "watched" "I", .arrayClass .int, .fieldLink "NestedChecker$Walk" 15 "NestedChecker$Walk" "belowStates" "[I", .fieldLink "NestedChecker$Walk" 19 "NestedChecker$Walk" "belowPairs" "[I", .fieldLink "NestedChecker$Walk" 22 "NestedChecker$Walk" "belowCall" "[I"] ++ wsX100)
set_option maxHeartbeats 4000000 in
set_option maxRecDepth 100000 in
theorem c_X10_init (l : Launch) (D : va_G) (k : jK) (h0 : Nat) (sz : Nat)  : Met l yX10_init ws_c_X10_init ({ frames := 1, cells := 3, slots := 90, locals := 12 }) (jy_P [.ref h0] D vwCl (jT k) jW [(h0, .inr (9, [.int 0, .int 0, .int 0, .int 0, .int 0, .null, .null, .null]))] sz) (va_Qv (fun (u : Nat × Nat × Nat) => True) (jy_B D vwCl (va_A [(h0, .inr (9, [.int 0, .int 0, .int 0, .int 0, .int 0, .null, .null, .null]))] sz) (fun (u : Nat × Nat × Nat) => [(h0, .inr (9, [.int (-1), .int 0, .int 0, .int 0, .int 0, .ref u.1, .ref u.2.1, .ref u.2.2])), (u.1, .inl (k.2.1, 30, .inl (fun _ => 0))), (u.2.1, .inl (k.2.1, 30, .inl (fun _ => 0))), (u.2.2, .inl (k.2.1, 30, .inl (fun _ => 0)))])) (va_A [(h0, .inr (9, [.int 0, .int 0, .int 0, .int 0, .int 0, .null, .null, .null]))] sz)) 3 90 (va_A [(h0, .inr (9, [.int 0, .int 0, .int 0, .int 0, .int 0, .null, .null, .null]))] sz) := by
  refine jy_met (cc := cX10_init) (maxL := 1) (ret := none) (lv := [(0, .ref h0)]) (by decide) rfl (Nat.le_of_ble_eq_true rfl) rfl ?_
  intro p e s m below meth c F hr hlk hnm hN hA
  have hiX10 : ∀ w ∈ u_ws RX10 TX10 8, w ∈ ws_c_X10_init := fun w hw => List.mem_cons_of_mem _ (List.mem_append_right _ hw)
  refine jy_aload_n (pc' := 1) F 0 dX10_init_0 rfl rfl rfl ?_
  refine jy_objInit (pc' := 4) F dX10_init_1 (List.mem_of_getElem? (i := 1) rfl) (List.mem_of_getElem? (i := 2) rfl) (List.mem_of_getElem? (i := 3) rfl) (by decide) (Nat.le_of_ble_eq_true rfl) rfl ?_
  refine jy_aload_n (pc' := 5) F 0 dX10_init_4 rfl rfl rfl ?_
  refine jy_iconst (pc' := 6) (v := (-1)) F dX10_init_5 (by decide) rfl ?_
  refine jy_put (pc' := 9) (C := RX10) (T := TX10) (N := 8) (ci := 9) (ws' := [(h0, .inr (9, [.int (-1), .int 0, .int 0, .int 0, .int 0, .null, .null, .null]))]) F hiX10 tyX10 tyX10_ok nmX10 0 rfl rfl 0 (by decide) dX10_init_6 (List.mem_of_getElem? (i := 4) rfl) rfl rfl rfl rfl (Nat.le_of_ble_eq_true rfl) rfl rfl ?_
  refine jy_aload_n (pc' := 10) F 0 dX10_init_9 rfl rfl rfl ?_
  refine jy_bipush (pc' := 12) (v := 30) F dX10_init_10 (by decide) rfl ?_
  refine jy_newa (pc' := 14) (N' := 30) (a0 := (30, .inl (fun _ => 0))) (cells' := 1) (slots' := 30) (ws' := fun q1 => [(h0, .inr (9, [.int (-1), .int 0, .int 0, .int 0, .int 0, .null, .null, .null])), (q1, .inl (k.2.1, 30, .inl (fun _ => 0)))]) F hA 1 rfl rfl dX10_init_12 (List.mem_of_getElem? (i := 5) rfl) (fun _ => rfl) (by decide) (by decide) (by decide) rfl rfl (by decide) (by decide) (fun _ => rfl) rfl (fun q1 => ?_)
  refine jy_putF (pc' := 17) (C := RX10) (T := TX10) (N := 8) (ci := 9) (ws' := [(h0, .inr (9, [.int (-1), .int 0, .int 0, .int 0, .int 0, .ref q1, .null, .null])), (q1, .inl (k.2.1, 30, .inl (fun _ => 0)))]) F hiX10 tyX10 tyX10_ok nmX10 0 rfl rfl 5 (by decide) dX10_init_14 (List.mem_of_getElem? (i := 6) rfl) rfl hnm rfl rfl rfl rfl (Nat.le_of_ble_eq_true rfl) rfl rfl ?_
  refine jy_aload_n (pc' := 18) F 0 dX10_init_17 rfl rfl rfl ?_
  refine jy_bipush (pc' := 20) (v := 30) F dX10_init_18 (by decide) rfl ?_
  refine jy_newa (pc' := 22) (N' := 30) (a0 := (30, .inl (fun _ => 0))) (cells' := 2) (slots' := 60) (ws' := fun q2 => [(h0, .inr (9, [.int (-1), .int 0, .int 0, .int 0, .int 0, .ref q1, .null, .null])), (q1, .inl (k.2.1, 30, .inl (fun _ => 0))), (q2, .inl (k.2.1, 30, .inl (fun _ => 0)))]) F hA 1 rfl rfl dX10_init_20 (List.mem_of_getElem? (i := 5) rfl) (fun _ => rfl) (by decide) (by decide) (by decide) rfl rfl (by decide) (by decide) (fun _ => rfl) rfl (fun q2 => ?_)
  refine jy_putF (pc' := 25) (C := RX10) (T := TX10) (N := 8) (ci := 9) (ws' := [(h0, .inr (9, [.int (-1), .int 0, .int 0, .int 0, .int 0, .ref q1, .ref q2, .null])), (q1, .inl (k.2.1, 30, .inl (fun _ => 0))), (q2, .inl (k.2.1, 30, .inl (fun _ => 0)))]) F hiX10 tyX10 tyX10_ok nmX10 0 rfl rfl 6 (by decide) dX10_init_22 (List.mem_of_getElem? (i := 7) rfl) rfl hnm rfl rfl rfl rfl (Nat.le_of_ble_eq_true rfl) rfl rfl ?_
  refine jy_aload_n (pc' := 26) F 0 dX10_init_25 rfl rfl rfl ?_
  refine jy_bipush (pc' := 28) (v := 30) F dX10_init_26 (by decide) rfl ?_
  refine jy_newa (pc' := 30) (N' := 30) (a0 := (30, .inl (fun _ => 0))) (cells' := 3) (slots' := 90) (ws' := fun q3 => [(h0, .inr (9, [.int (-1), .int 0, .int 0, .int 0, .int 0, .ref q1, .ref q2, .null])), (q1, .inl (k.2.1, 30, .inl (fun _ => 0))), (q2, .inl (k.2.1, 30, .inl (fun _ => 0))), (q3, .inl (k.2.1, 30, .inl (fun _ => 0)))]) F hA 1 rfl rfl dX10_init_28 (List.mem_of_getElem? (i := 5) rfl) (fun _ => rfl) (by decide) (by decide) (by decide) rfl rfl (by decide) (by decide) (fun _ => rfl) rfl (fun q3 => ?_)
  refine jy_putF (pc' := 33) (C := RX10) (T := TX10) (N := 8) (ci := 9) (ws' := [(h0, .inr (9, [.int (-1), .int 0, .int 0, .int 0, .int 0, .ref q1, .ref q2, .ref q3])), (q1, .inl (k.2.1, 30, .inl (fun _ => 0))), (q2, .inl (k.2.1, 30, .inl (fun _ => 0))), (q3, .inl (k.2.1, 30, .inl (fun _ => 0)))]) F hiX10 tyX10 tyX10_ok nmX10 0 rfl rfl 7 (by decide) dX10_init_30 (List.mem_of_getElem? (i := 8) rfl) rfl hnm rfl rfl rfl rfl (Nat.le_of_ble_eq_true rfl) rfl rfl ?_
  refine jy_widen (cells' := 3) (slots' := 90) (by decide) (by decide) ?_
  exact jy_vret F hr hlk (q1, q2, q3) (trivial) [0, 1, 2, 3] rfl (by decide) dX10_init_33
abbrev cX0_init : ByteArray := prog_2_method_1_code
def yX0_init : MethodName := ⟨RX0, "<init>", "()V"⟩
theorem hdX0_init : yX0_init.cls ≠ "java/lang/invoke/MethodHandle" ∧ yX0_init.cls ≠ "java/lang/invoke/VarHandle" ∧ (parseMethodDescriptor yX0_init.desc).map (fun d => d.parameters.length) = some 0 := by decide +kernel
theorem dX0_init_0 : decode cX0_init 0 = .ok (.aload_n 0, 1) := by decide +kernel
theorem dX0_init_1 : decode cX0_init 1 = .ok (.invokespecial 3, 3) := by decide +kernel
theorem dX0_init_4 : decode cX0_init 4 = .ok (.aload_n 0, 1) := by decide +kernel
theorem dX0_init_5 : decode cX0_init 5 = .ok (.bipush 20, 2) := by decide +kernel
theorem dX0_init_7 : decode cX0_init 7 = .ok (.newarray .int, 2) := by decide +kernel
theorem dX0_init_9 : decode cX0_init 9 = .ok (.putfield 9, 3) := by decide +kernel
theorem dX0_init_12 : decode cX0_init 12 = .ok (.aload_n 0, 1) := by decide +kernel
theorem dX0_init_13 : decode cX0_init 13 = .ok (.bipush 20, 2) := by decide +kernel
theorem dX0_init_15 : decode cX0_init 15 = .ok (.newarray .int, 2) := by decide +kernel
theorem dX0_init_17 : decode cX0_init 17 = .ok (.putfield 15, 3) := by decide +kernel
theorem dX0_init_20 : decode cX0_init 20 = .ok (.aload_n 0, 1) := by decide +kernel
theorem dX0_init_21 : decode cX0_init 21 = .ok (.bipush 20, 2) := by decide +kernel
theorem dX0_init_23 : decode cX0_init 23 = .ok (.newarray .int, 2) := by decide +kernel
theorem dX0_init_25 : decode cX0_init 25 = .ok (.putfield 18, 3) := by decide +kernel
theorem dX0_init_28 : decode cX0_init 28 = .ok (.aload_n 0, 1) := by decide +kernel
theorem dX0_init_29 : decode cX0_init 29 = .ok (.bipush 20, 2) := by decide +kernel
theorem dX0_init_31 : decode cX0_init 31 = .ok (.newarray .int, 2) := by decide +kernel
theorem dX0_init_33 : decode cX0_init 33 = .ok (.putfield 21, 3) := by decide +kernel
theorem dX0_init_36 : decode cX0_init 36 = .ok (.aload_n 0, 1) := by decide +kernel
theorem dX0_init_37 : decode cX0_init 37 = .ok (.bipush 6, 2) := by decide +kernel
theorem dX0_init_39 : decode cX0_init 39 = .ok (.newarray .int, 2) := by decide +kernel
theorem dX0_init_41 : decode cX0_init 41 = .ok (.putfield 24, 3) := by decide +kernel
theorem dX0_init_44 : decode cX0_init 44 = .ok (.aload_n 0, 1) := by decide +kernel
theorem dX0_init_45 : decode cX0_init 45 = .ok (.bipush 18, 2) := by decide +kernel
theorem dX0_init_47 : decode cX0_init 47 = .ok (.newarray .int, 2) := by decide +kernel
theorem dX0_init_49 : decode cX0_init 49 = .ok (.putfield 27, 3) := by decide +kernel
theorem dX0_init_52 : decode cX0_init 52 = .ok (.return_, 1) := by decide +kernel
def ws_c_X0_init : List Cond := .code yX0_init cX0_init 1 none :: ([.methodLink "NestedChecker$Automaton" 3 ⟨"java/lang/Object", "<init>", "()V"⟩, .instanceMethod ⟨"java/lang/Object", "<init>", "()V"⟩, .code ⟨"java/lang/Object", "<init>", "()V"⟩ object_method_1_code 1 none, .arrayClass .int, .fieldLink "NestedChecker$Automaton" 9 "NestedChecker$Automaton" "letter" "[I", .fieldLink "NestedChecker$Automaton" 15 "NestedChecker$Automaton" "from" "[I", .fieldLink "NestedChecker$Automaton" 18 "NestedChecker$Automaton" "to" "[I", .fieldLink "NestedChecker$Automaton" 21 "NestedChecker$Automaton" "symbol" "[I", .fieldLink "NestedChecker$Automaton" 24 "NestedChecker$Automaton" "step" "[I", .fieldLink "NestedChecker$Automaton" 27 "NestedChecker$Automaton" "stacked" "[I"] ++ wsX00)
set_option maxHeartbeats 4000000 in
set_option maxRecDepth 100000 in
theorem c_X0_init (l : Launch) (D : va_G) (k : jK) (h0 : Nat) (sz : Nat)  : Met l yX0_init ws_c_X0_init ({ frames := 1, cells := 6, slots := 104, locals := 12 }) (jy_P [.ref h0] D vwCl (jT k) jW [(h0, .inr (0, [.int 0, .int 0, .int 0, .int 0, .int 0, .int 0, .null, .null, .null, .null, .null, .null]))] sz) (va_Qv (fun (u : Nat × Nat × Nat × Nat × Nat × Nat) => True) (jy_B D vwCl (va_A [(h0, .inr (0, [.int 0, .int 0, .int 0, .int 0, .int 0, .int 0, .null, .null, .null, .null, .null, .null]))] sz) (fun (u : Nat × Nat × Nat × Nat × Nat × Nat) => [(h0, .inr (0, [.int 0, .int 0, .int 0, .int 0, .int 0, .int 0, .ref u.1, .ref u.2.1, .ref u.2.2.1, .ref u.2.2.2.1, .ref u.2.2.2.2.1, .ref u.2.2.2.2.2])), (u.1, .inl (k.2.1, 20, .inl (fun _ => 0))), (u.2.1, .inl (k.2.1, 20, .inl (fun _ => 0))), (u.2.2.1, .inl (k.2.1, 20, .inl (fun _ => 0))), (u.2.2.2.1, .inl (k.2.1, 20, .inl (fun _ => 0))), (u.2.2.2.2.1, .inl (k.2.1, 6, .inl (fun _ => 0))), (u.2.2.2.2.2, .inl (k.2.1, 18, .inl (fun _ => 0)))])) (va_A [(h0, .inr (0, [.int 0, .int 0, .int 0, .int 0, .int 0, .int 0, .null, .null, .null, .null, .null, .null]))] sz)) 6 104 (va_A [(h0, .inr (0, [.int 0, .int 0, .int 0, .int 0, .int 0, .int 0, .null, .null, .null, .null, .null, .null]))] sz) := by
  refine jy_met (cc := cX0_init) (maxL := 1) (ret := none) (lv := [(0, .ref h0)]) (by decide) rfl (Nat.le_of_ble_eq_true rfl) rfl ?_
  intro p e s m below meth c F hr hlk hnm hN hA
  have hiX0 : ∀ w ∈ u_ws RX0 TX0 12, w ∈ ws_c_X0_init := fun w hw => List.mem_cons_of_mem _ (List.mem_append_right _ hw)
  refine jy_aload_n (pc' := 1) F 0 dX0_init_0 rfl rfl rfl ?_
  refine jy_objInit (pc' := 4) F dX0_init_1 (List.mem_of_getElem? (i := 1) rfl) (List.mem_of_getElem? (i := 2) rfl) (List.mem_of_getElem? (i := 3) rfl) (by decide) (Nat.le_of_ble_eq_true rfl) rfl ?_
  refine jy_aload_n (pc' := 5) F 0 dX0_init_4 rfl rfl rfl ?_
  refine jy_bipush (pc' := 7) (v := 20) F dX0_init_5 (by decide) rfl ?_
  refine jy_newa (pc' := 9) (N' := 20) (a0 := (20, .inl (fun _ => 0))) (cells' := 1) (slots' := 20) (ws' := fun q1 => [(h0, .inr (0, [.int 0, .int 0, .int 0, .int 0, .int 0, .int 0, .null, .null, .null, .null, .null, .null])), (q1, .inl (k.2.1, 20, .inl (fun _ => 0)))]) F hA 1 rfl rfl dX0_init_7 (List.mem_of_getElem? (i := 4) rfl) (fun _ => rfl) (by decide) (by decide) (by decide) rfl rfl (by decide) (by decide) (fun _ => rfl) rfl (fun q1 => ?_)
  refine jy_putF (pc' := 12) (C := RX0) (T := TX0) (N := 12) (ci := 0) (ws' := [(h0, .inr (0, [.int 0, .int 0, .int 0, .int 0, .int 0, .int 0, .ref q1, .null, .null, .null, .null, .null])), (q1, .inl (k.2.1, 20, .inl (fun _ => 0)))]) F hiX0 tyX0 tyX0_ok nmX0 0 rfl rfl 6 (by decide) dX0_init_9 (List.mem_of_getElem? (i := 5) rfl) rfl hnm rfl rfl rfl rfl (Nat.le_of_ble_eq_true rfl) rfl rfl ?_
  refine jy_aload_n (pc' := 13) F 0 dX0_init_12 rfl rfl rfl ?_
  refine jy_bipush (pc' := 15) (v := 20) F dX0_init_13 (by decide) rfl ?_
  refine jy_newa (pc' := 17) (N' := 20) (a0 := (20, .inl (fun _ => 0))) (cells' := 2) (slots' := 40) (ws' := fun q2 => [(h0, .inr (0, [.int 0, .int 0, .int 0, .int 0, .int 0, .int 0, .ref q1, .null, .null, .null, .null, .null])), (q1, .inl (k.2.1, 20, .inl (fun _ => 0))), (q2, .inl (k.2.1, 20, .inl (fun _ => 0)))]) F hA 1 rfl rfl dX0_init_15 (List.mem_of_getElem? (i := 4) rfl) (fun _ => rfl) (by decide) (by decide) (by decide) rfl rfl (by decide) (by decide) (fun _ => rfl) rfl (fun q2 => ?_)
  refine jy_putF (pc' := 20) (C := RX0) (T := TX0) (N := 12) (ci := 0) (ws' := [(h0, .inr (0, [.int 0, .int 0, .int 0, .int 0, .int 0, .int 0, .ref q1, .ref q2, .null, .null, .null, .null])), (q1, .inl (k.2.1, 20, .inl (fun _ => 0))), (q2, .inl (k.2.1, 20, .inl (fun _ => 0)))]) F hiX0 tyX0 tyX0_ok nmX0 0 rfl rfl 7 (by decide) dX0_init_17 (List.mem_of_getElem? (i := 6) rfl) rfl hnm rfl rfl rfl rfl (Nat.le_of_ble_eq_true rfl) rfl rfl ?_
  refine jy_aload_n (pc' := 21) F 0 dX0_init_20 rfl rfl rfl ?_
  refine jy_bipush (pc' := 23) (v := 20) F dX0_init_21 (by decide) rfl ?_
  refine jy_newa (pc' := 25) (N' := 20) (a0 := (20, .inl (fun _ => 0))) (cells' := 3) (slots' := 60) (ws' := fun q3 => [(h0, .inr (0, [.int 0, .int 0, .int 0, .int 0, .int 0, .int 0, .ref q1, .ref q2, .null, .null, .null, .null])), (q1, .inl (k.2.1, 20, .inl (fun _ => 0))), (q2, .inl (k.2.1, 20, .inl (fun _ => 0))), (q3, .inl (k.2.1, 20, .inl (fun _ => 0)))]) F hA 1 rfl rfl dX0_init_23 (List.mem_of_getElem? (i := 4) rfl) (fun _ => rfl) (by decide) (by decide) (by decide) rfl rfl (by decide) (by decide) (fun _ => rfl) rfl (fun q3 => ?_)
  refine jy_putF (pc' := 28) (C := RX0) (T := TX0) (N := 12) (ci := 0) (ws' := [(h0, .inr (0, [.int 0, .int 0, .int 0, .int 0, .int 0, .int 0, .ref q1, .ref q2, .ref q3, .null, .null, .null])), (q1, .inl (k.2.1, 20, .inl (fun _ => 0))), (q2, .inl (k.2.1, 20, .inl (fun _ => 0))), (q3, .inl (k.2.1, 20, .inl (fun _ => 0)))]) F hiX0 tyX0 tyX0_ok nmX0 0 rfl rfl 8 (by decide) dX0_init_25 (List.mem_of_getElem? (i := 7) rfl) rfl hnm rfl rfl rfl rfl (Nat.le_of_ble_eq_true rfl) rfl rfl ?_
  refine jy_aload_n (pc' := 29) F 0 dX0_init_28 rfl rfl rfl ?_
  refine jy_bipush (pc' := 31) (v := 20) F dX0_init_29 (by decide) rfl ?_
  refine jy_newa (pc' := 33) (N' := 20) (a0 := (20, .inl (fun _ => 0))) (cells' := 4) (slots' := 80) (ws' := fun q4 => [(h0, .inr (0, [.int 0, .int 0, .int 0, .int 0, .int 0, .int 0, .ref q1, .ref q2, .ref q3, .null, .null, .null])), (q1, .inl (k.2.1, 20, .inl (fun _ => 0))), (q2, .inl (k.2.1, 20, .inl (fun _ => 0))), (q3, .inl (k.2.1, 20, .inl (fun _ => 0))), (q4, .inl (k.2.1, 20, .inl (fun _ => 0)))]) F hA 1 rfl rfl dX0_init_31 (List.mem_of_getElem? (i := 4) rfl) (fun _ => rfl) (by decide) (by decide) (by decide) rfl rfl (by decide) (by decide) (fun _ => rfl) rfl (fun q4 => ?_)
  refine jy_putF (pc' := 36) (C := RX0) (T := TX0) (N := 12) (ci := 0) (ws' := [(h0, .inr (0, [.int 0, .int 0, .int 0, .int 0, .int 0, .int 0, .ref q1, .ref q2, .ref q3, .ref q4, .null, .null])), (q1, .inl (k.2.1, 20, .inl (fun _ => 0))), (q2, .inl (k.2.1, 20, .inl (fun _ => 0))), (q3, .inl (k.2.1, 20, .inl (fun _ => 0))), (q4, .inl (k.2.1, 20, .inl (fun _ => 0)))]) F hiX0 tyX0 tyX0_ok nmX0 0 rfl rfl 9 (by decide) dX0_init_33 (List.mem_of_getElem? (i := 8) rfl) rfl hnm rfl rfl rfl rfl (Nat.le_of_ble_eq_true rfl) rfl rfl ?_
  refine jy_aload_n (pc' := 37) F 0 dX0_init_36 rfl rfl rfl ?_
  refine jy_bipush (pc' := 39) (v := 6) F dX0_init_37 (by decide) rfl ?_
  refine jy_newa (pc' := 41) (N' := 6) (a0 := (6, .inl (fun _ => 0))) (cells' := 5) (slots' := 86) (ws' := fun q5 => [(h0, .inr (0, [.int 0, .int 0, .int 0, .int 0, .int 0, .int 0, .ref q1, .ref q2, .ref q3, .ref q4, .null, .null])), (q1, .inl (k.2.1, 20, .inl (fun _ => 0))), (q2, .inl (k.2.1, 20, .inl (fun _ => 0))), (q3, .inl (k.2.1, 20, .inl (fun _ => 0))), (q4, .inl (k.2.1, 20, .inl (fun _ => 0))), (q5, .inl (k.2.1, 6, .inl (fun _ => 0)))]) F hA 1 rfl rfl dX0_init_39 (List.mem_of_getElem? (i := 4) rfl) (fun _ => rfl) (by decide) (by decide) (by decide) rfl rfl (by decide) (by decide) (fun _ => rfl) rfl (fun q5 => ?_)
  refine jy_putF (pc' := 44) (C := RX0) (T := TX0) (N := 12) (ci := 0) (ws' := [(h0, .inr (0, [.int 0, .int 0, .int 0, .int 0, .int 0, .int 0, .ref q1, .ref q2, .ref q3, .ref q4, .ref q5, .null])), (q1, .inl (k.2.1, 20, .inl (fun _ => 0))), (q2, .inl (k.2.1, 20, .inl (fun _ => 0))), (q3, .inl (k.2.1, 20, .inl (fun _ => 0))), (q4, .inl (k.2.1, 20, .inl (fun _ => 0))), (q5, .inl (k.2.1, 6, .inl (fun _ => 0)))]) F hiX0 tyX0 tyX0_ok nmX0 0 rfl rfl 10 (by decide) dX0_init_41 (List.mem_of_getElem? (i := 9) rfl) rfl hnm rfl rfl rfl rfl (Nat.le_of_ble_eq_true rfl) rfl rfl ?_
  refine jy_aload_n (pc' := 45) F 0 dX0_init_44 rfl rfl rfl ?_
  refine jy_bipush (pc' := 47) (v := 18) F dX0_init_45 (by decide) rfl ?_
  refine jy_newa (pc' := 49) (N' := 18) (a0 := (18, .inl (fun _ => 0))) (cells' := 6) (slots' := 104) (ws' := fun q6 => [(h0, .inr (0, [.int 0, .int 0, .int 0, .int 0, .int 0, .int 0, .ref q1, .ref q2, .ref q3, .ref q4, .ref q5, .null])), (q1, .inl (k.2.1, 20, .inl (fun _ => 0))), (q2, .inl (k.2.1, 20, .inl (fun _ => 0))), (q3, .inl (k.2.1, 20, .inl (fun _ => 0))), (q4, .inl (k.2.1, 20, .inl (fun _ => 0))), (q5, .inl (k.2.1, 6, .inl (fun _ => 0))), (q6, .inl (k.2.1, 18, .inl (fun _ => 0)))]) F hA 1 rfl rfl dX0_init_47 (List.mem_of_getElem? (i := 4) rfl) (fun _ => rfl) (by decide) (by decide) (by decide) rfl rfl (by decide) (by decide) (fun _ => rfl) rfl (fun q6 => ?_)
  refine jy_putF (pc' := 52) (C := RX0) (T := TX0) (N := 12) (ci := 0) (ws' := [(h0, .inr (0, [.int 0, .int 0, .int 0, .int 0, .int 0, .int 0, .ref q1, .ref q2, .ref q3, .ref q4, .ref q5, .ref q6])), (q1, .inl (k.2.1, 20, .inl (fun _ => 0))), (q2, .inl (k.2.1, 20, .inl (fun _ => 0))), (q3, .inl (k.2.1, 20, .inl (fun _ => 0))), (q4, .inl (k.2.1, 20, .inl (fun _ => 0))), (q5, .inl (k.2.1, 6, .inl (fun _ => 0))), (q6, .inl (k.2.1, 18, .inl (fun _ => 0)))]) F hiX0 tyX0 tyX0_ok nmX0 0 rfl rfl 11 (by decide) dX0_init_49 (List.mem_of_getElem? (i := 10) rfl) rfl hnm rfl rfl rfl rfl (Nat.le_of_ble_eq_true rfl) rfl rfl ?_
  refine jy_widen (cells' := 6) (slots' := 104) (by decide) (by decide) ?_
  exact jy_vret F hr hlk (q1, q2, q3, q4, q5, q6) (trivial) [0, 1, 2, 3, 4, 5, 6] rfl (by decide) dX0_init_52
abbrev cX5_init : ByteArray := prog_7_method_1_code
def yX5_init : MethodName := ⟨RX5, "<init>", "()V"⟩
theorem hdX5_init : yX5_init.cls ≠ "java/lang/invoke/MethodHandle" ∧ yX5_init.cls ≠ "java/lang/invoke/VarHandle" ∧ (parseMethodDescriptor yX5_init.desc).map (fun d => d.parameters.length) = some 0 := by decide +kernel
theorem dX5_init_0 : decode cX5_init 0 = .ok (.aload_n 0, 1) := by decide +kernel
theorem dX5_init_1 : decode cX5_init 1 = .ok (.invokespecial 3, 3) := by decide +kernel
theorem dX5_init_4 : decode cX5_init 4 = .ok (.aload_n 0, 1) := by decide +kernel
theorem dX5_init_5 : decode cX5_init 5 = .ok (.new 9, 3) := by decide +kernel
theorem dX5_init_8 : decode cX5_init 8 = .ok (.dup, 1) := by decide +kernel
theorem dX5_init_9 : decode cX5_init 9 = .ok (.invokespecial 11, 3) := by decide +kernel
theorem dX5_init_12 : decode cX5_init 12 = .ok (.putfield 12, 3) := by decide +kernel
theorem dX5_init_15 : decode cX5_init 15 = .ok (.aload_n 0, 1) := by decide +kernel
theorem dX5_init_16 : decode cX5_init 16 = .ok (.new 9, 3) := by decide +kernel
theorem dX5_init_19 : decode cX5_init 19 = .ok (.dup, 1) := by decide +kernel
theorem dX5_init_20 : decode cX5_init 20 = .ok (.invokespecial 11, 3) := by decide +kernel
theorem dX5_init_23 : decode cX5_init 23 = .ok (.putfield 18, 3) := by decide +kernel
theorem dX5_init_26 : decode cX5_init 26 = .ok (.aload_n 0, 1) := by decide +kernel
theorem dX5_init_27 : decode cX5_init 27 = .ok (.new 21, 3) := by decide +kernel
theorem dX5_init_30 : decode cX5_init 30 = .ok (.dup, 1) := by decide +kernel
theorem dX5_init_31 : decode cX5_init 31 = .ok (.invokespecial 23, 3) := by decide +kernel
theorem dX5_init_34 : decode cX5_init 34 = .ok (.putfield 24, 3) := by decide +kernel
theorem dX5_init_37 : decode cX5_init 37 = .ok (.return_, 1) := by decide +kernel
def ws_c_X5_init : List Cond := .code yX5_init cX5_init 1 none :: ([.methodLink "NestedChecker$Setting" 3 ⟨"java/lang/Object", "<init>", "()V"⟩, .instanceMethod ⟨"java/lang/Object", "<init>", "()V"⟩, .code ⟨"java/lang/Object", "<init>", "()V"⟩ object_method_1_code 1 none, .classLink "NestedChecker$Setting" 9 "NestedChecker$Automaton", .instantiable "NestedChecker$Automaton" 12, .initialized "NestedChecker$Automaton", .code ⟨"NestedChecker$Automaton", "<init>", "()V"⟩ cX0_init 1 none, .methodLink "NestedChecker$Automaton" 3 ⟨"java/lang/Object", "<init>", "()V"⟩, .arrayClass .int, .fieldLink "NestedChecker$Automaton" 9 "NestedChecker$Automaton" "letter" "[I", .fieldLink "NestedChecker$Automaton" 15 "NestedChecker$Automaton" "from" "[I", .fieldLink "NestedChecker$Automaton" 18 "NestedChecker$Automaton" "to" "[I", .fieldLink "NestedChecker$Automaton" 21 "NestedChecker$Automaton" "symbol" "[I", .fieldLink "NestedChecker$Automaton" 24 "NestedChecker$Automaton" "step" "[I", .fieldLink "NestedChecker$Automaton" 27 "NestedChecker$Automaton" "stacked" "[I", .instanceMethod ⟨"NestedChecker$Automaton", "<init>", "()V"⟩, .fieldLink "NestedChecker$Setting" 12 "NestedChecker$Setting" "first" "LNestedChecker$Automaton;", .fieldLink "NestedChecker$Setting" 18 "NestedChecker$Setting" "second" "LNestedChecker$Automaton;", .classLink "NestedChecker$Setting" 21 "NestedChecker$Walk", .instantiable "NestedChecker$Walk" 8, .initialized "NestedChecker$Walk", .code ⟨"NestedChecker$Walk", "<init>", "()V"⟩ cX10_init 1 none, .methodLink "NestedChecker$Walk" 3 ⟨"java/lang/Object", "<init>", "()V"⟩, .fieldLink "NestedChecker$Walk" 9 "NestedChecker$Walk" "watched" "I", .fieldLink "NestedChecker$Walk" 15 "NestedChecker$Walk" "belowStates" "[I", .fieldLink "NestedChecker$Walk" 19 "NestedChecker$Walk" "belowPairs" "[I", .fieldLink "NestedChecker$Walk" 22 "NestedChecker$Walk" "belowCall" "[I", .instanceMethod ⟨"NestedChecker$Walk", "<init>", "()V"⟩, .fieldLink "NestedChecker$Setting" 24 "NestedChecker$Setting" "monitor" "LNestedChecker$Walk;"] ++ wsX00 ++ wsX50 ++ wsX100)
set_option maxRecDepth 20000 in
theorem g_c_X5_init_c_X0_init : GoodIn ws_c_X5_init ws_c_X0_init := goodIn_r _ [7, 8, 2, 3, 9, 10, 11, 12, 13, 14, 15, 30, 31, 32, 33, 34, 35, 36, 37, 38, 39, 40, 41] (by decide +kernel) (by decide +kernel)
set_option maxRecDepth 20000 in
theorem g_c_X5_init_c_X10_init : GoodIn ws_c_X5_init ws_c_X10_init := goodIn_r _ [22, 23, 2, 3, 24, 9, 25, 26, 27, 49, 50, 51, 52, 53, 54, 55, 56] (by decide +kernel) (by decide +kernel)
set_option maxHeartbeats 4000000 in
set_option maxRecDepth 100000 in
theorem c_X5_init (l : Launch) (D : va_G) (k : jK) (h0 : Nat) (sz : Nat)  : Met l yX5_init ws_c_X5_init ({ frames := 2, cells := 18, slots := 330, locals := 32 }) (jy_P [.ref h0] D vwCl (jT k) jW [(h0, .inr (4, [.int 0, .int 0, .int 0, .int 0, .null, .null, .null]))] sz) (va_Qv (fun (u : Nat × Nat × Nat × Nat × Nat × Nat × Nat × Nat × Nat × Nat × Nat × Nat × Nat × Nat × Nat × Nat × Nat × Nat) => True) (jy_B D vwCl (va_A [(h0, .inr (4, [.int 0, .int 0, .int 0, .int 0, .null, .null, .null]))] sz) (fun (u : Nat × Nat × Nat × Nat × Nat × Nat × Nat × Nat × Nat × Nat × Nat × Nat × Nat × Nat × Nat × Nat × Nat × Nat) => [(h0, .inr (4, [.int 0, .int 0, .int 0, .int 0, .ref u.1, .ref u.2.1, .ref u.2.2.1])), (u.1, .inr (0, [.int 0, .int 0, .int 0, .int 0, .int 0, .int 0, .ref u.2.2.2.1, .ref u.2.2.2.2.1, .ref u.2.2.2.2.2.1, .ref u.2.2.2.2.2.2.1, .ref u.2.2.2.2.2.2.2.1, .ref u.2.2.2.2.2.2.2.2.1])), (u.2.2.2.1, .inl (k.2.1, 20, .inl (fun _ => 0))), (u.2.2.2.2.1, .inl (k.2.1, 20, .inl (fun _ => 0))), (u.2.2.2.2.2.1, .inl (k.2.1, 20, .inl (fun _ => 0))), (u.2.2.2.2.2.2.1, .inl (k.2.1, 20, .inl (fun _ => 0))), (u.2.2.2.2.2.2.2.1, .inl (k.2.1, 6, .inl (fun _ => 0))), (u.2.2.2.2.2.2.2.2.1, .inl (k.2.1, 18, .inl (fun _ => 0))), (u.2.1, .inr (0, [.int 0, .int 0, .int 0, .int 0, .int 0, .int 0, .ref u.2.2.2.2.2.2.2.2.2.1, .ref u.2.2.2.2.2.2.2.2.2.2.1, .ref u.2.2.2.2.2.2.2.2.2.2.2.1, .ref u.2.2.2.2.2.2.2.2.2.2.2.2.1, .ref u.2.2.2.2.2.2.2.2.2.2.2.2.2.1, .ref u.2.2.2.2.2.2.2.2.2.2.2.2.2.2.1])), (u.2.2.2.2.2.2.2.2.2.1, .inl (k.2.1, 20, .inl (fun _ => 0))), (u.2.2.2.2.2.2.2.2.2.2.1, .inl (k.2.1, 20, .inl (fun _ => 0))), (u.2.2.2.2.2.2.2.2.2.2.2.1, .inl (k.2.1, 20, .inl (fun _ => 0))), (u.2.2.2.2.2.2.2.2.2.2.2.2.1, .inl (k.2.1, 20, .inl (fun _ => 0))), (u.2.2.2.2.2.2.2.2.2.2.2.2.2.1, .inl (k.2.1, 6, .inl (fun _ => 0))), (u.2.2.2.2.2.2.2.2.2.2.2.2.2.2.1, .inl (k.2.1, 18, .inl (fun _ => 0))), (u.2.2.1, .inr (9, [.int (-1), .int 0, .int 0, .int 0, .int 0, .ref u.2.2.2.2.2.2.2.2.2.2.2.2.2.2.2.1, .ref u.2.2.2.2.2.2.2.2.2.2.2.2.2.2.2.2.1, .ref u.2.2.2.2.2.2.2.2.2.2.2.2.2.2.2.2.2])), (u.2.2.2.2.2.2.2.2.2.2.2.2.2.2.2.1, .inl (k.2.1, 30, .inl (fun _ => 0))), (u.2.2.2.2.2.2.2.2.2.2.2.2.2.2.2.2.1, .inl (k.2.1, 30, .inl (fun _ => 0))), (u.2.2.2.2.2.2.2.2.2.2.2.2.2.2.2.2.2, .inl (k.2.1, 30, .inl (fun _ => 0)))])) (va_A [(h0, .inr (4, [.int 0, .int 0, .int 0, .int 0, .null, .null, .null]))] sz)) 18 330 (va_A [(h0, .inr (4, [.int 0, .int 0, .int 0, .int 0, .null, .null, .null]))] sz) := by
  refine jy_met (cc := cX5_init) (maxL := 1) (ret := none) (lv := [(0, .ref h0)]) (by decide) rfl (Nat.le_of_ble_eq_true rfl) rfl ?_
  intro p e s m below meth c F hr hlk hnm hN hA
  have hiX0 : ∀ w ∈ u_ws RX0 TX0 12, w ∈ ws_c_X5_init := fun w hw => List.mem_cons_of_mem _ (List.mem_append_left _ (List.mem_append_left _ (List.mem_append_right _ hw)))
  have hiX5 : ∀ w ∈ u_ws RX5 TX5 7, w ∈ ws_c_X5_init := fun w hw => List.mem_cons_of_mem _ (List.mem_append_left _ (List.mem_append_right _ hw))
  have hiX10 : ∀ w ∈ u_ws RX10 TX10 8, w ∈ ws_c_X5_init := fun w hw => List.mem_cons_of_mem _ (List.mem_append_right _ hw)
  refine jy_aload_n (pc' := 1) F 0 dX5_init_0 rfl rfl rfl ?_
  refine jy_objInit (pc' := 4) F dX5_init_1 (List.mem_of_getElem? (i := 1) rfl) (List.mem_of_getElem? (i := 2) rfl) (List.mem_of_getElem? (i := 3) rfl) (by decide) (Nat.le_of_ble_eq_true rfl) rfl ?_
  refine jy_aload_n (pc' := 5) F 0 dX5_init_4 rfl rfl rfl ?_
  refine jy_new (pc' := 8) (C := RX0) (T := TX0) (N := 12) (ci := 0) (fs := [.int 0, .int 0, .int 0, .int 0, .int 0, .int 0, .null, .null, .null, .null, .null, .null]) (cells' := 1) (slots' := 12) (ws' := fun q1 => [(h0, .inr (4, [.int 0, .int 0, .int 0, .int 0, .null, .null, .null])), (q1, .inr (0, [.int 0, .int 0, .int 0, .int 0, .int 0, .int 0, .null, .null, .null, .null, .null, .null]))]) F hA hiX0 tyX0 tyX0_ok rfl dfX0 dX5_init_5 (List.mem_of_getElem? (i := 4) rfl) (List.mem_of_getElem? (i := 5) rfl) (List.mem_of_getElem? (i := 6) rfl) rfl rfl (by decide) (by decide) (fun _ => rfl) rfl (fun q1 => ?_)
  refine jy_dup (pc' := 9) F dX5_init_8 rfl rfl ?_
  refine jy_callv (pc' := 12) (cells' := 7) (slots' := 116) (wr := [(h0, .inr (4, [.int 0, .int 0, .int 0, .int 0, .null, .null, .null]))]) hA [1] [0] rfl rfl (by decide) (by decide) (jy_runIN (As := []) (b := q1) (st := [.ref q1, .ref h0]) F hN (fun sz => c_X0_init l D k q1 sz ) (jy_cIN F g_c_X5_init_c_X0_init rfl hdX0_init (List.mem_of_getElem? (i := 6) rfl) ((hN _ (List.mem_of_getElem? (i := 2) rfl)).2) (List.mem_of_getElem? (i := 16) rfl) rfl rfl rfl ⟨by decide, by decide⟩) [1] rfl (by decide) rfl rfl (Nat.le_of_ble_eq_true rfl) dX5_init_9 ⟨by decide, by decide⟩) rfl rfl rfl (fun u2 e3 => ?_)
  obtain ⟨q4, q5, q6, q7, q8, q9⟩ := u2
  refine jy_ws (ws' := [(h0, .inr (4, [.int 0, .int 0, .int 0, .int 0, .null, .null, .null])), (q1, .inr (0, [.int 0, .int 0, .int 0, .int 0, .int 0, .int 0, .ref q4, .ref q5, .ref q6, .ref q7, .ref q8, .ref q9])), (q4, .inl (k.2.1, 20, .inl (fun _ => 0))), (q5, .inl (k.2.1, 20, .inl (fun _ => 0))), (q6, .inl (k.2.1, 20, .inl (fun _ => 0))), (q7, .inl (k.2.1, 20, .inl (fun _ => 0))), (q8, .inl (k.2.1, 6, .inl (fun _ => 0))), (q9, .inl (k.2.1, 18, .inl (fun _ => 0)))]) rfl ?_
  refine jy_putF (pc' := 15) (C := RX5) (T := TX5) (N := 7) (ci := 4) (ws' := [(h0, .inr (4, [.int 0, .int 0, .int 0, .int 0, .ref q1, .null, .null])), (q1, .inr (0, [.int 0, .int 0, .int 0, .int 0, .int 0, .int 0, .ref q4, .ref q5, .ref q6, .ref q7, .ref q8, .ref q9])), (q4, .inl (k.2.1, 20, .inl (fun _ => 0))), (q5, .inl (k.2.1, 20, .inl (fun _ => 0))), (q6, .inl (k.2.1, 20, .inl (fun _ => 0))), (q7, .inl (k.2.1, 20, .inl (fun _ => 0))), (q8, .inl (k.2.1, 6, .inl (fun _ => 0))), (q9, .inl (k.2.1, 18, .inl (fun _ => 0)))]) F hiX5 tyX5 tyX5_ok nmX5 0 rfl rfl 4 (by decide) dX5_init_12 (List.mem_of_getElem? (i := 17) rfl) rfl hnm rfl rfl rfl rfl (Nat.le_of_ble_eq_true rfl) rfl rfl ?_
  refine jy_aload_n (pc' := 16) F 0 dX5_init_15 rfl rfl rfl ?_
  refine jy_new (pc' := 19) (C := RX0) (T := TX0) (N := 12) (ci := 0) (fs := [.int 0, .int 0, .int 0, .int 0, .int 0, .int 0, .null, .null, .null, .null, .null, .null]) (cells' := 8) (slots' := 128) (ws' := fun q10 => [(h0, .inr (4, [.int 0, .int 0, .int 0, .int 0, .ref q1, .null, .null])), (q1, .inr (0, [.int 0, .int 0, .int 0, .int 0, .int 0, .int 0, .ref q4, .ref q5, .ref q6, .ref q7, .ref q8, .ref q9])), (q4, .inl (k.2.1, 20, .inl (fun _ => 0))), (q5, .inl (k.2.1, 20, .inl (fun _ => 0))), (q6, .inl (k.2.1, 20, .inl (fun _ => 0))), (q7, .inl (k.2.1, 20, .inl (fun _ => 0))), (q8, .inl (k.2.1, 6, .inl (fun _ => 0))), (q9, .inl (k.2.1, 18, .inl (fun _ => 0))), (q10, .inr (0, [.int 0, .int 0, .int 0, .int 0, .int 0, .int 0, .null, .null, .null, .null, .null, .null]))]) F hA hiX0 tyX0 tyX0_ok rfl dfX0 dX5_init_16 (List.mem_of_getElem? (i := 4) rfl) (List.mem_of_getElem? (i := 5) rfl) (List.mem_of_getElem? (i := 6) rfl) rfl rfl (by decide) (by decide) (fun _ => rfl) rfl (fun q10 => ?_)
  refine jy_dup (pc' := 20) F dX5_init_19 rfl rfl ?_
  refine jy_callv (pc' := 23) (cells' := 14) (slots' := 232) (wr := [(h0, .inr (4, [.int 0, .int 0, .int 0, .int 0, .ref q1, .null, .null])), (q1, .inr (0, [.int 0, .int 0, .int 0, .int 0, .int 0, .int 0, .ref q4, .ref q5, .ref q6, .ref q7, .ref q8, .ref q9])), (q4, .inl (k.2.1, 20, .inl (fun _ => 0))), (q5, .inl (k.2.1, 20, .inl (fun _ => 0))), (q6, .inl (k.2.1, 20, .inl (fun _ => 0))), (q7, .inl (k.2.1, 20, .inl (fun _ => 0))), (q8, .inl (k.2.1, 6, .inl (fun _ => 0))), (q9, .inl (k.2.1, 18, .inl (fun _ => 0)))]) hA [8] [0, 1, 2, 3, 4, 5, 6, 7] rfl rfl (by decide) (by decide) (jy_runIN (As := []) (b := q10) (st := [.ref q10, .ref h0]) F hN (fun sz => c_X0_init l D k q10 sz ) (jy_cIN F g_c_X5_init_c_X0_init rfl hdX0_init (List.mem_of_getElem? (i := 6) rfl) ((hN _ (List.mem_of_getElem? (i := 2) rfl)).2) (List.mem_of_getElem? (i := 16) rfl) rfl rfl rfl ⟨by decide, by decide⟩) [8] rfl (by decide) rfl rfl (Nat.le_of_ble_eq_true rfl) dX5_init_20 ⟨by decide, by decide⟩) rfl rfl rfl (fun u11 e12 => ?_)
  obtain ⟨q13, q14, q15, q16, q17, q18⟩ := u11
  refine jy_ws (ws' := [(h0, .inr (4, [.int 0, .int 0, .int 0, .int 0, .ref q1, .null, .null])), (q1, .inr (0, [.int 0, .int 0, .int 0, .int 0, .int 0, .int 0, .ref q4, .ref q5, .ref q6, .ref q7, .ref q8, .ref q9])), (q4, .inl (k.2.1, 20, .inl (fun _ => 0))), (q5, .inl (k.2.1, 20, .inl (fun _ => 0))), (q6, .inl (k.2.1, 20, .inl (fun _ => 0))), (q7, .inl (k.2.1, 20, .inl (fun _ => 0))), (q8, .inl (k.2.1, 6, .inl (fun _ => 0))), (q9, .inl (k.2.1, 18, .inl (fun _ => 0))), (q10, .inr (0, [.int 0, .int 0, .int 0, .int 0, .int 0, .int 0, .ref q13, .ref q14, .ref q15, .ref q16, .ref q17, .ref q18])), (q13, .inl (k.2.1, 20, .inl (fun _ => 0))), (q14, .inl (k.2.1, 20, .inl (fun _ => 0))), (q15, .inl (k.2.1, 20, .inl (fun _ => 0))), (q16, .inl (k.2.1, 20, .inl (fun _ => 0))), (q17, .inl (k.2.1, 6, .inl (fun _ => 0))), (q18, .inl (k.2.1, 18, .inl (fun _ => 0)))]) rfl ?_
  refine jy_putF (pc' := 26) (C := RX5) (T := TX5) (N := 7) (ci := 4) (ws' := [(h0, .inr (4, [.int 0, .int 0, .int 0, .int 0, .ref q1, .ref q10, .null])), (q1, .inr (0, [.int 0, .int 0, .int 0, .int 0, .int 0, .int 0, .ref q4, .ref q5, .ref q6, .ref q7, .ref q8, .ref q9])), (q4, .inl (k.2.1, 20, .inl (fun _ => 0))), (q5, .inl (k.2.1, 20, .inl (fun _ => 0))), (q6, .inl (k.2.1, 20, .inl (fun _ => 0))), (q7, .inl (k.2.1, 20, .inl (fun _ => 0))), (q8, .inl (k.2.1, 6, .inl (fun _ => 0))), (q9, .inl (k.2.1, 18, .inl (fun _ => 0))), (q10, .inr (0, [.int 0, .int 0, .int 0, .int 0, .int 0, .int 0, .ref q13, .ref q14, .ref q15, .ref q16, .ref q17, .ref q18])), (q13, .inl (k.2.1, 20, .inl (fun _ => 0))), (q14, .inl (k.2.1, 20, .inl (fun _ => 0))), (q15, .inl (k.2.1, 20, .inl (fun _ => 0))), (q16, .inl (k.2.1, 20, .inl (fun _ => 0))), (q17, .inl (k.2.1, 6, .inl (fun _ => 0))), (q18, .inl (k.2.1, 18, .inl (fun _ => 0)))]) F hiX5 tyX5 tyX5_ok nmX5 0 rfl rfl 5 (by decide) dX5_init_23 (List.mem_of_getElem? (i := 18) rfl) rfl hnm rfl rfl rfl rfl (Nat.le_of_ble_eq_true rfl) rfl rfl ?_
  refine jy_aload_n (pc' := 27) F 0 dX5_init_26 rfl rfl rfl ?_
  refine jy_new (pc' := 30) (C := RX10) (T := TX10) (N := 8) (ci := 9) (fs := [.int 0, .int 0, .int 0, .int 0, .int 0, .null, .null, .null]) (cells' := 15) (slots' := 240) (ws' := fun q19 => [(h0, .inr (4, [.int 0, .int 0, .int 0, .int 0, .ref q1, .ref q10, .null])), (q1, .inr (0, [.int 0, .int 0, .int 0, .int 0, .int 0, .int 0, .ref q4, .ref q5, .ref q6, .ref q7, .ref q8, .ref q9])), (q4, .inl (k.2.1, 20, .inl (fun _ => 0))), (q5, .inl (k.2.1, 20, .inl (fun _ => 0))), (q6, .inl (k.2.1, 20, .inl (fun _ => 0))), (q7, .inl (k.2.1, 20, .inl (fun _ => 0))), (q8, .inl (k.2.1, 6, .inl (fun _ => 0))), (q9, .inl (k.2.1, 18, .inl (fun _ => 0))), (q10, .inr (0, [.int 0, .int 0, .int 0, .int 0, .int 0, .int 0, .ref q13, .ref q14, .ref q15, .ref q16, .ref q17, .ref q18])), (q13, .inl (k.2.1, 20, .inl (fun _ => 0))), (q14, .inl (k.2.1, 20, .inl (fun _ => 0))), (q15, .inl (k.2.1, 20, .inl (fun _ => 0))), (q16, .inl (k.2.1, 20, .inl (fun _ => 0))), (q17, .inl (k.2.1, 6, .inl (fun _ => 0))), (q18, .inl (k.2.1, 18, .inl (fun _ => 0))), (q19, .inr (9, [.int 0, .int 0, .int 0, .int 0, .int 0, .null, .null, .null]))]) F hA hiX10 tyX10 tyX10_ok rfl dfX10 dX5_init_27 (List.mem_of_getElem? (i := 19) rfl) (List.mem_of_getElem? (i := 20) rfl) (List.mem_of_getElem? (i := 21) rfl) rfl rfl (by decide) (by decide) (fun _ => rfl) rfl (fun q19 => ?_)
  refine jy_dup (pc' := 31) F dX5_init_30 rfl rfl ?_
  refine jy_callv (pc' := 34) (cells' := 18) (slots' := 330) (wr := [(h0, .inr (4, [.int 0, .int 0, .int 0, .int 0, .ref q1, .ref q10, .null])), (q1, .inr (0, [.int 0, .int 0, .int 0, .int 0, .int 0, .int 0, .ref q4, .ref q5, .ref q6, .ref q7, .ref q8, .ref q9])), (q4, .inl (k.2.1, 20, .inl (fun _ => 0))), (q5, .inl (k.2.1, 20, .inl (fun _ => 0))), (q6, .inl (k.2.1, 20, .inl (fun _ => 0))), (q7, .inl (k.2.1, 20, .inl (fun _ => 0))), (q8, .inl (k.2.1, 6, .inl (fun _ => 0))), (q9, .inl (k.2.1, 18, .inl (fun _ => 0))), (q10, .inr (0, [.int 0, .int 0, .int 0, .int 0, .int 0, .int 0, .ref q13, .ref q14, .ref q15, .ref q16, .ref q17, .ref q18])), (q13, .inl (k.2.1, 20, .inl (fun _ => 0))), (q14, .inl (k.2.1, 20, .inl (fun _ => 0))), (q15, .inl (k.2.1, 20, .inl (fun _ => 0))), (q16, .inl (k.2.1, 20, .inl (fun _ => 0))), (q17, .inl (k.2.1, 6, .inl (fun _ => 0))), (q18, .inl (k.2.1, 18, .inl (fun _ => 0)))]) hA [15] [0, 1, 2, 3, 4, 5, 6, 7, 8, 9, 10, 11, 12, 13, 14] rfl rfl (by decide) (by decide) (jy_runIN (As := []) (b := q19) (st := [.ref q19, .ref h0]) F hN (fun sz => c_X10_init l D k q19 sz ) (jy_cIN F g_c_X5_init_c_X10_init rfl hdX10_init (List.mem_of_getElem? (i := 21) rfl) ((hN _ (List.mem_of_getElem? (i := 3) rfl)).2) (List.mem_of_getElem? (i := 28) rfl) rfl rfl rfl ⟨by decide, by decide⟩) [15] rfl (by decide) rfl rfl (Nat.le_of_ble_eq_true rfl) dX5_init_31 ⟨by decide, by decide⟩) rfl rfl rfl (fun u20 e21 => ?_)
  obtain ⟨q22, q23, q24⟩ := u20
  refine jy_ws (ws' := [(h0, .inr (4, [.int 0, .int 0, .int 0, .int 0, .ref q1, .ref q10, .null])), (q1, .inr (0, [.int 0, .int 0, .int 0, .int 0, .int 0, .int 0, .ref q4, .ref q5, .ref q6, .ref q7, .ref q8, .ref q9])), (q4, .inl (k.2.1, 20, .inl (fun _ => 0))), (q5, .inl (k.2.1, 20, .inl (fun _ => 0))), (q6, .inl (k.2.1, 20, .inl (fun _ => 0))), (q7, .inl (k.2.1, 20, .inl (fun _ => 0))), (q8, .inl (k.2.1, 6, .inl (fun _ => 0))), (q9, .inl (k.2.1, 18, .inl (fun _ => 0))), (q10, .inr (0, [.int 0, .int 0, .int 0, .int 0, .int 0, .int 0, .ref q13, .ref q14, .ref q15, .ref q16, .ref q17, .ref q18])), (q13, .inl (k.2.1, 20, .inl (fun _ => 0))), (q14, .inl (k.2.1, 20, .inl (fun _ => 0))), (q15, .inl (k.2.1, 20, .inl (fun _ => 0))), (q16, .inl (k.2.1, 20, .inl (fun _ => 0))), (q17, .inl (k.2.1, 6, .inl (fun _ => 0))), (q18, .inl (k.2.1, 18, .inl (fun _ => 0))), (q19, .inr (9, [.int (-1), .int 0, .int 0, .int 0, .int 0, .ref q22, .ref q23, .ref q24])), (q22, .inl (k.2.1, 30, .inl (fun _ => 0))), (q23, .inl (k.2.1, 30, .inl (fun _ => 0))), (q24, .inl (k.2.1, 30, .inl (fun _ => 0)))]) rfl ?_
  refine jy_putF (pc' := 37) (C := RX5) (T := TX5) (N := 7) (ci := 4) (ws' := [(h0, .inr (4, [.int 0, .int 0, .int 0, .int 0, .ref q1, .ref q10, .ref q19])), (q1, .inr (0, [.int 0, .int 0, .int 0, .int 0, .int 0, .int 0, .ref q4, .ref q5, .ref q6, .ref q7, .ref q8, .ref q9])), (q4, .inl (k.2.1, 20, .inl (fun _ => 0))), (q5, .inl (k.2.1, 20, .inl (fun _ => 0))), (q6, .inl (k.2.1, 20, .inl (fun _ => 0))), (q7, .inl (k.2.1, 20, .inl (fun _ => 0))), (q8, .inl (k.2.1, 6, .inl (fun _ => 0))), (q9, .inl (k.2.1, 18, .inl (fun _ => 0))), (q10, .inr (0, [.int 0, .int 0, .int 0, .int 0, .int 0, .int 0, .ref q13, .ref q14, .ref q15, .ref q16, .ref q17, .ref q18])), (q13, .inl (k.2.1, 20, .inl (fun _ => 0))), (q14, .inl (k.2.1, 20, .inl (fun _ => 0))), (q15, .inl (k.2.1, 20, .inl (fun _ => 0))), (q16, .inl (k.2.1, 20, .inl (fun _ => 0))), (q17, .inl (k.2.1, 6, .inl (fun _ => 0))), (q18, .inl (k.2.1, 18, .inl (fun _ => 0))), (q19, .inr (9, [.int (-1), .int 0, .int 0, .int 0, .int 0, .ref q22, .ref q23, .ref q24])), (q22, .inl (k.2.1, 30, .inl (fun _ => 0))), (q23, .inl (k.2.1, 30, .inl (fun _ => 0))), (q24, .inl (k.2.1, 30, .inl (fun _ => 0)))]) F hiX5 tyX5 tyX5_ok nmX5 0 rfl rfl 6 (by decide) dX5_init_34 (List.mem_of_getElem? (i := 29) rfl) rfl hnm rfl rfl rfl rfl (Nat.le_of_ble_eq_true rfl) rfl rfl ?_
  refine jy_widen (cells' := 18) (slots' := 330) (by decide) (by decide) ?_
  exact jy_vret F hr hlk (q1, q10, q19, q4, q5, q6, q7, q8, q9, q13, q14, q15, q16, q17, q18, q22, q23, q24) (trivial) [0, 1, 2, 3, 4, 5, 6, 7, 8, 9, 10, 11, 12, 13, 14, 15, 16, 17, 18] rfl (by decide) dX5_init_37
def RJ7 : String := "java/util/Arrays"
abbrev cJ7_fill_53178 : ByteArray := prog_20_method_103_code
def yJ7_fill_53178 : MethodName := ⟨RJ7, "fill", "([II)V"⟩
theorem hdJ7_fill_53178 : yJ7_fill_53178.cls ≠ "java/lang/invoke/MethodHandle" ∧ yJ7_fill_53178.cls ≠ "java/lang/invoke/VarHandle" ∧ (parseMethodDescriptor yJ7_fill_53178.desc).map (fun d => d.parameters.length) = some 2 := by decide +kernel
theorem dJ7_fill_53178_0 : decode cJ7_fill_53178 0 = .ok (.iconst 0, 1) := by decide +kernel
theorem dJ7_fill_53178_1 : decode cJ7_fill_53178 1 = .ok (.istore_n 2, 1) := by decide +kernel
theorem dJ7_fill_53178_2 : decode cJ7_fill_53178 2 = .ok (.aload_n 0, 1) := by decide +kernel
theorem dJ7_fill_53178_3 : decode cJ7_fill_53178 3 = .ok (.arraylength, 1) := by decide +kernel
theorem dJ7_fill_53178_4 : decode cJ7_fill_53178 4 = .ok (.istore_n 3, 1) := by decide +kernel
theorem dJ7_fill_53178_5 : decode cJ7_fill_53178 5 = .ok (.iload_n 2, 1) := by decide +kernel
theorem dJ7_fill_53178_6 : decode cJ7_fill_53178 6 = .ok (.iload_n 3, 1) := by decide +kernel
theorem dJ7_fill_53178_7 : decode cJ7_fill_53178 7 = .ok (.if_icmp .ge 13, 3) := by decide +kernel
theorem dJ7_fill_53178_10 : decode cJ7_fill_53178 10 = .ok (.aload_n 0, 1) := by decide +kernel
theorem dJ7_fill_53178_11 : decode cJ7_fill_53178 11 = .ok (.iload_n 2, 1) := by decide +kernel
theorem dJ7_fill_53178_12 : decode cJ7_fill_53178 12 = .ok (.iload_n 1, 1) := by decide +kernel
theorem dJ7_fill_53178_13 : decode cJ7_fill_53178 13 = .ok (.iastore, 1) := by decide +kernel
theorem dJ7_fill_53178_14 : decode cJ7_fill_53178 14 = .ok (.iinc 2 1, 3) := by decide +kernel
theorem dJ7_fill_53178_17 : decode cJ7_fill_53178 17 = .ok (.goto (-12), 3) := by decide +kernel
theorem dJ7_fill_53178_20 : decode cJ7_fill_53178 20 = .ok (.return_, 1) := by decide +kernel
def ws_c_fill_6 : List Cond := .code yJ7_fill_53178 cJ7_fill_53178 4 none :: ([])
set_option maxHeartbeats 4000000 in
set_option maxRecDepth 100000 in
theorem c_fill_6 (l : Launch) (D : va_G) (k : jK) (a : Nat) (f : Nat → Int32) (x : Int32) (sz : Nat)  : Met l yJ7_fill_53178 ws_c_fill_6 ({ frames := 0, cells := 0, slots := 0, locals := 0 }) (jy_P [.ref a, .int x] D vwCl (jT k) jW [(a, .inl (k.2.1, 6, .inl f))] sz) (va_Qv (fun (u : (Nat → Int32)) => True) (jy_B D vwCl (va_A [(a, .inl (k.2.1, 6, .inl f))] sz) (fun (u : (Nat → Int32)) => [(a, .inl (k.2.1, 6, .inl u))])) (va_A [(a, .inl (k.2.1, 6, .inl f))] sz)) 0 0 (va_A [(a, .inl (k.2.1, 6, .inl f))] sz) := by
  refine jy_met (cc := cJ7_fill_53178) (maxL := 4) (ret := none) (lv := [(0, .ref a), (1, .int x)]) (by decide) rfl (Nat.le_of_ble_eq_true rfl) rfl ?_
  intro p e s m below meth c F hr hlk hnm hN hA
  refine jy_iconst (pc' := 1) (v := 0) F dJ7_fill_53178_0 (by decide) rfl ?_
  refine jy_istore_n (pc' := 2) (lv' := [(2, .int 0), (0, .ref a), (1, .int x)]) F dJ7_fill_53178_1 rfl (by decide) rfl rfl ?_
  refine jy_aload_n (pc' := 3) F 1 dJ7_fill_53178_2 rfl rfl rfl ?_
  refine jy_alen (pc' := 4) (v := 6) F 0 1 rfl rfl dJ7_fill_53178_3 rfl rfl ?_
  refine jy_istore_n (pc' := 5) (lv' := [(3, .int 6), (2, .int 0), (0, .ref a), (1, .int x)]) F dJ7_fill_53178_4 rfl (by decide) rfl rfl ?_
  refine jy_lpick (lv' := [(2, .int 0), (3, .int 6), (0, .ref a), (1, .int x)]) [1, 0, 2, 3] rfl ?_
  refine jy_loop (α := (Nat → Int32)) (ws := fun i1 a3 => [(a, .inl (k.2.1, 6, .inl a3))]) (lv := fun i1 a3 => [(2, .int (nI i1)), (3, .int 6), (0, .ref a), (1, .int x)]) (I := fun i1 a3 => True) (hi := 6) (i0 := 0) (a0 := (f)) (by omega) (trivial) ?_ ?_
  · rintro i1 f2 h4 hv6 ih5
    refine jy_ws (ws' := [(a, .inl (k.2.1, 6, .inl f2))]) rfl ?_
    refine jy_iload_n (pc' := 6) F 0 dJ7_fill_53178_5 rfl rfl rfl ?_
    refine jy_iload_n (pc' := 7) F 1 dJ7_fill_53178_6 rfl rfl rfl ?_
    refine jy_icmp_ge (pc' := 10) (tgt := 20) F dJ7_fill_53178_7 (by decide) rfl (fun h => absurd h (nI_ge (a := i1) (b := 6) (by omega) (by omega))) (fun _ => ?_)
    refine jy_aload_n (pc' := 11) F 2 dJ7_fill_53178_10 rfl rfl rfl ?_
    refine jy_iload_n (pc' := 12) F 0 dJ7_fill_53178_11 rfl rfl rfl ?_
    refine jy_iload_n (pc' := 13) F 3 dJ7_fill_53178_12 rfl rfl rfl ?_
    refine jy_iast (pc' := 14) (g := (upd f2 i1 x)) (ws' := [(a, .inl (k.2.1, 6, .inl (upd f2 i1 x)))]) F 0 1 rfl rfl dJ7_fill_53178_13 (vp_in_nI (n := i1) (by omega) (by omega)) (by rw [nI_clamp (by omega)]) rfl rfl ?_
    refine jy_iinc (pc' := 17) (v := (nI (i1 + 1))) (lv' := [(2, .int (nI (i1 + 1))), (3, .int 6), (0, .ref a), (1, .int x)]) F 0 dJ7_fill_53178_14 rfl (nI_add i1 1) (by decide) rfl rfl ?_
    refine jy_goto (tgt := 5) F dJ7_fill_53178_17 (by decide) ?_
    refine jy_lpick (lv' := [(2, .int (nI (i1 + 1))), (3, .int 6), (0, .ref a), (1, .int x)]) [0, 1, 2, 3] rfl ?_
    exact ih5 ((upd f2 i1 x)) (trivial)
  · rintro f2 hv6
    refine jy_ws (ws' := [(a, .inl (k.2.1, 6, .inl f2))]) rfl ?_
    refine jy_iload_n (pc' := 6) F 0 dJ7_fill_53178_5 rfl rfl rfl ?_
    refine jy_iload_n (pc' := 7) F 1 dJ7_fill_53178_6 rfl rfl rfl ?_
    refine jy_icmp_ge (pc' := 10) (tgt := 20) F dJ7_fill_53178_7 (by decide) rfl (fun _ => ?_) (fun h => absurd (nI_le (a := 6) (b := 6) (by omega) (by omega)) h)
    refine jy_widen (cells' := 0) (slots' := 0) (by decide) (by decide) ?_
    exact jy_vret F hr hlk f2 (trivial) [0] rfl (by decide) dJ7_fill_53178_20
def ws_c_fill_18 : List Cond := .code yJ7_fill_53178 cJ7_fill_53178 4 none :: ([])
set_option maxHeartbeats 4000000 in
set_option maxRecDepth 100000 in
theorem c_fill_18 (l : Launch) (D : va_G) (k : jK) (a : Nat) (f : Nat → Int32) (x : Int32) (sz : Nat)  : Met l yJ7_fill_53178 ws_c_fill_18 ({ frames := 0, cells := 0, slots := 0, locals := 0 }) (jy_P [.ref a, .int x] D vwCl (jT k) jW [(a, .inl (k.2.1, 18, .inl f))] sz) (va_Qv (fun (u : (Nat → Int32)) => True) (jy_B D vwCl (va_A [(a, .inl (k.2.1, 18, .inl f))] sz) (fun (u : (Nat → Int32)) => [(a, .inl (k.2.1, 18, .inl u))])) (va_A [(a, .inl (k.2.1, 18, .inl f))] sz)) 0 0 (va_A [(a, .inl (k.2.1, 18, .inl f))] sz) := by
  refine jy_met (cc := cJ7_fill_53178) (maxL := 4) (ret := none) (lv := [(0, .ref a), (1, .int x)]) (by decide) rfl (Nat.le_of_ble_eq_true rfl) rfl ?_
  intro p e s m below meth c F hr hlk hnm hN hA
  refine jy_iconst (pc' := 1) (v := 0) F dJ7_fill_53178_0 (by decide) rfl ?_
  refine jy_istore_n (pc' := 2) (lv' := [(2, .int 0), (0, .ref a), (1, .int x)]) F dJ7_fill_53178_1 rfl (by decide) rfl rfl ?_
  refine jy_aload_n (pc' := 3) F 1 dJ7_fill_53178_2 rfl rfl rfl ?_
  refine jy_alen (pc' := 4) (v := 18) F 0 1 rfl rfl dJ7_fill_53178_3 rfl rfl ?_
  refine jy_istore_n (pc' := 5) (lv' := [(3, .int 18), (2, .int 0), (0, .ref a), (1, .int x)]) F dJ7_fill_53178_4 rfl (by decide) rfl rfl ?_
  refine jy_lpick (lv' := [(2, .int 0), (3, .int 18), (0, .ref a), (1, .int x)]) [1, 0, 2, 3] rfl ?_
  refine jy_loop (α := (Nat → Int32)) (ws := fun i1 a3 => [(a, .inl (k.2.1, 18, .inl a3))]) (lv := fun i1 a3 => [(2, .int (nI i1)), (3, .int 18), (0, .ref a), (1, .int x)]) (I := fun i1 a3 => True) (hi := 18) (i0 := 0) (a0 := (f)) (by omega) (trivial) ?_ ?_
  · rintro i1 f2 h4 hv6 ih5
    refine jy_ws (ws' := [(a, .inl (k.2.1, 18, .inl f2))]) rfl ?_
    refine jy_iload_n (pc' := 6) F 0 dJ7_fill_53178_5 rfl rfl rfl ?_
    refine jy_iload_n (pc' := 7) F 1 dJ7_fill_53178_6 rfl rfl rfl ?_
    refine jy_icmp_ge (pc' := 10) (tgt := 20) F dJ7_fill_53178_7 (by decide) rfl (fun h => absurd h (nI_ge (a := i1) (b := 18) (by omega) (by omega))) (fun _ => ?_)
    refine jy_aload_n (pc' := 11) F 2 dJ7_fill_53178_10 rfl rfl rfl ?_
    refine jy_iload_n (pc' := 12) F 0 dJ7_fill_53178_11 rfl rfl rfl ?_
    refine jy_iload_n (pc' := 13) F 3 dJ7_fill_53178_12 rfl rfl rfl ?_
    refine jy_iast (pc' := 14) (g := (upd f2 i1 x)) (ws' := [(a, .inl (k.2.1, 18, .inl (upd f2 i1 x)))]) F 0 1 rfl rfl dJ7_fill_53178_13 (vp_in_nI (n := i1) (by omega) (by omega)) (by rw [nI_clamp (by omega)]) rfl rfl ?_
    refine jy_iinc (pc' := 17) (v := (nI (i1 + 1))) (lv' := [(2, .int (nI (i1 + 1))), (3, .int 18), (0, .ref a), (1, .int x)]) F 0 dJ7_fill_53178_14 rfl (nI_add i1 1) (by decide) rfl rfl ?_
    refine jy_goto (tgt := 5) F dJ7_fill_53178_17 (by decide) ?_
    refine jy_lpick (lv' := [(2, .int (nI (i1 + 1))), (3, .int 18), (0, .ref a), (1, .int x)]) [0, 1, 2, 3] rfl ?_
    exact ih5 ((upd f2 i1 x)) (trivial)
  · rintro f2 hv6
    refine jy_ws (ws' := [(a, .inl (k.2.1, 18, .inl f2))]) rfl ?_
    refine jy_iload_n (pc' := 6) F 0 dJ7_fill_53178_5 rfl rfl rfl ?_
    refine jy_iload_n (pc' := 7) F 1 dJ7_fill_53178_6 rfl rfl rfl ?_
    refine jy_icmp_ge (pc' := 10) (tgt := 20) F dJ7_fill_53178_7 (by decide) rfl (fun _ => ?_) (fun h => absurd (nI_le (a := 18) (b := 18) (by omega) (by omega)) h)
    refine jy_widen (cells' := 0) (slots' := 0) (by decide) (by decide) ?_
    exact jy_vret F hr hlk f2 (trivial) [0] rfl (by decide) dJ7_fill_53178_20
abbrev cX9_init : ByteArray := prog_11_method_1_code
def yX9_init : MethodName := ⟨RX9, "<init>", "()V"⟩
theorem hdX9_init : yX9_init.cls ≠ "java/lang/invoke/MethodHandle" ∧ yX9_init.cls ≠ "java/lang/invoke/VarHandle" ∧ (parseMethodDescriptor yX9_init.desc).map (fun d => d.parameters.length) = some 0 := by decide +kernel
theorem dX9_init_0 : decode cX9_init 0 = .ok (.aload_n 0, 1) := by decide +kernel
theorem dX9_init_1 : decode cX9_init 1 = .ok (.invokespecial 3, 3) := by decide +kernel
theorem dX9_init_4 : decode cX9_init 4 = .ok (.aload_n 0, 1) := by decide +kernel
theorem dX9_init_5 : decode cX9_init 5 = .ok (.sipush 240, 3) := by decide +kernel
theorem dX9_init_8 : decode cX9_init 8 = .ok (.newarray .long, 2) := by decide +kernel
theorem dX9_init_10 : decode cX9_init 10 = .ok (.putfield 11, 3) := by decide +kernel
theorem dX9_init_13 : decode cX9_init 13 = .ok (.aload_n 0, 1) := by decide +kernel
theorem dX9_init_14 : decode cX9_init 14 = .ok (.iconst 4, 1) := by decide +kernel
theorem dX9_init_15 : decode cX9_init 15 = .ok (.newarray .int, 2) := by decide +kernel
theorem dX9_init_17 : decode cX9_init 17 = .ok (.putfield 15, 3) := by decide +kernel
theorem dX9_init_20 : decode cX9_init 20 = .ok (.aload_n 0, 1) := by decide +kernel
theorem dX9_init_21 : decode cX9_init 21 = .ok (.iconst 4, 1) := by decide +kernel
theorem dX9_init_22 : decode cX9_init 22 = .ok (.newarray .int, 2) := by decide +kernel
theorem dX9_init_24 : decode cX9_init 24 = .ok (.putfield 19, 3) := by decide +kernel
theorem dX9_init_27 : decode cX9_init 27 = .ok (.iconst 0, 1) := by decide +kernel
theorem dX9_init_28 : decode cX9_init 28 = .ok (.istore_n 1, 1) := by decide +kernel
theorem dX9_init_29 : decode cX9_init 29 = .ok (.iload_n 1, 1) := by decide +kernel
theorem dX9_init_30 : decode cX9_init 30 = .ok (.iconst 4, 1) := by decide +kernel
theorem dX9_init_31 : decode cX9_init 31 = .ok (.if_icmp .ge 16, 3) := by decide +kernel
theorem dX9_init_34 : decode cX9_init 34 = .ok (.aload_n 0, 1) := by decide +kernel
theorem dX9_init_35 : decode cX9_init 35 = .ok (.getfield 19, 3) := by decide +kernel
theorem dX9_init_38 : decode cX9_init 38 = .ok (.iload_n 1, 1) := by decide +kernel
theorem dX9_init_39 : decode cX9_init 39 = .ok (.iconst (-1), 1) := by decide +kernel
theorem dX9_init_40 : decode cX9_init 40 = .ok (.iastore, 1) := by decide +kernel
theorem dX9_init_41 : decode cX9_init 41 = .ok (.iinc 1 1, 3) := by decide +kernel
theorem dX9_init_44 : decode cX9_init 44 = .ok (.goto (-15), 3) := by decide +kernel
theorem dX9_init_47 : decode cX9_init 47 = .ok (.return_, 1) := by decide +kernel
def ws_c_X9_init : List Cond := .code yX9_init cX9_init 2 none :: ([.methodLink "NestedChecker$Trays" 3 ⟨"java/lang/Object", "<init>", "()V"⟩, .instanceMethod ⟨"java/lang/Object", "<init>", "()V"⟩, .code ⟨"java/lang/Object", "<init>", "()V"⟩ object_method_1_code 1 none, .arrayClass .long, .fieldLink "NestedChecker$Trays" 11 "NestedChecker$Trays" "values" "[J", .arrayClass .int, .fieldLink "NestedChecker$Trays" 15 "NestedChecker$Trays" "sorts" "[I", .fieldLink "NestedChecker$Trays" 19 "NestedChecker$Trays" "places" "[I"] ++ wsX90)
set_option maxHeartbeats 4000000 in
set_option maxRecDepth 100000 in
theorem c_X9_init (l : Launch) (D : va_G) (k : jK) (h0 : Nat) (sz : Nat)  : Met l yX9_init ws_c_X9_init ({ frames := 1, cells := 3, slots := 248, locals := 12 }) (jy_P [.ref h0] D vwCl (jT k) jW [(h0, .inr (8, [.null, .null, .null]))] sz) (va_Qv (fun (u : Nat × Nat × Nat × (Nat → Int32)) => ∀ j, j < 4 → u.2.2.2 j = -1) (jy_B D vwCl (va_A [(h0, .inr (8, [.null, .null, .null]))] sz) (fun (u : Nat × Nat × Nat × (Nat → Int32)) => [(h0, .inr (8, [.ref u.1, .ref u.2.1, .ref u.2.2.1])), (u.1, .inl (k.2.2.1, 240, .inr (.inl (fun _ => 0)))), (u.2.1, .inl (k.2.1, 4, .inl (fun _ => 0))), (u.2.2.1, .inl (k.2.1, 4, .inl u.2.2.2))])) (va_A [(h0, .inr (8, [.null, .null, .null]))] sz)) 3 248 (va_A [(h0, .inr (8, [.null, .null, .null]))] sz) := by
  refine jy_met (cc := cX9_init) (maxL := 2) (ret := none) (lv := [(0, .ref h0)]) (by decide) rfl (Nat.le_of_ble_eq_true rfl) rfl ?_
  intro p e s m below meth c F hr hlk hnm hN hA
  have hiX9 : ∀ w ∈ u_ws RX9 TX9 3, w ∈ ws_c_X9_init := fun w hw => List.mem_cons_of_mem _ (List.mem_append_right _ hw)
  refine jy_aload_n (pc' := 1) F 0 dX9_init_0 rfl rfl rfl ?_
  refine jy_objInit (pc' := 4) F dX9_init_1 (List.mem_of_getElem? (i := 1) rfl) (List.mem_of_getElem? (i := 2) rfl) (List.mem_of_getElem? (i := 3) rfl) (by decide) (Nat.le_of_ble_eq_true rfl) rfl ?_
  refine jy_aload_n (pc' := 5) F 0 dX9_init_4 rfl rfl rfl ?_
  refine jy_sipush (pc' := 8) (v := 240) F dX9_init_5 (by decide) rfl ?_
  refine jy_newa (pc' := 10) (N' := 240) (a0 := (240, .inr (.inl (fun _ => 0)))) (cells' := 1) (slots' := 240) (ws' := fun q1 => [(h0, .inr (8, [.null, .null, .null])), (q1, .inl (k.2.2.1, 240, .inr (.inl (fun _ => 0))))]) F hA 2 rfl rfl dX9_init_8 (List.mem_of_getElem? (i := 4) rfl) (fun _ => rfl) (by decide) (by decide) (by decide) rfl rfl (by decide) (by decide) (fun _ => rfl) rfl (fun q1 => ?_)
  refine jy_putF (pc' := 13) (C := RX9) (T := TX9) (N := 3) (ci := 8) (ws' := [(h0, .inr (8, [.ref q1, .null, .null])), (q1, .inl (k.2.2.1, 240, .inr (.inl (fun _ => 0))))]) F hiX9 tyX9 tyX9_ok nmX9 0 rfl rfl 0 (by decide) dX9_init_10 (List.mem_of_getElem? (i := 5) rfl) rfl hnm rfl rfl rfl rfl (Nat.le_of_ble_eq_true rfl) rfl rfl ?_
  refine jy_aload_n (pc' := 14) F 0 dX9_init_13 rfl rfl rfl ?_
  refine jy_iconst (pc' := 15) (v := 4) F dX9_init_14 (by decide) rfl ?_
  refine jy_newa (pc' := 17) (N' := 4) (a0 := (4, .inl (fun _ => 0))) (cells' := 2) (slots' := 244) (ws' := fun q2 => [(h0, .inr (8, [.ref q1, .null, .null])), (q1, .inl (k.2.2.1, 240, .inr (.inl (fun _ => 0)))), (q2, .inl (k.2.1, 4, .inl (fun _ => 0)))]) F hA 1 rfl rfl dX9_init_15 (List.mem_of_getElem? (i := 6) rfl) (fun _ => rfl) (by decide) (by decide) (by decide) rfl rfl (by decide) (by decide) (fun _ => rfl) rfl (fun q2 => ?_)
  refine jy_putF (pc' := 20) (C := RX9) (T := TX9) (N := 3) (ci := 8) (ws' := [(h0, .inr (8, [.ref q1, .ref q2, .null])), (q1, .inl (k.2.2.1, 240, .inr (.inl (fun _ => 0)))), (q2, .inl (k.2.1, 4, .inl (fun _ => 0)))]) F hiX9 tyX9 tyX9_ok nmX9 0 rfl rfl 1 (by decide) dX9_init_17 (List.mem_of_getElem? (i := 7) rfl) rfl hnm rfl rfl rfl rfl (Nat.le_of_ble_eq_true rfl) rfl rfl ?_
  refine jy_aload_n (pc' := 21) F 0 dX9_init_20 rfl rfl rfl ?_
  refine jy_iconst (pc' := 22) (v := 4) F dX9_init_21 (by decide) rfl ?_
  refine jy_newa (pc' := 24) (N' := 4) (a0 := (4, .inl (fun _ => 0))) (cells' := 3) (slots' := 248) (ws' := fun q3 => [(h0, .inr (8, [.ref q1, .ref q2, .null])), (q1, .inl (k.2.2.1, 240, .inr (.inl (fun _ => 0)))), (q2, .inl (k.2.1, 4, .inl (fun _ => 0))), (q3, .inl (k.2.1, 4, .inl (fun _ => 0)))]) F hA 1 rfl rfl dX9_init_22 (List.mem_of_getElem? (i := 6) rfl) (fun _ => rfl) (by decide) (by decide) (by decide) rfl rfl (by decide) (by decide) (fun _ => rfl) rfl (fun q3 => ?_)
  refine jy_putF (pc' := 27) (C := RX9) (T := TX9) (N := 3) (ci := 8) (ws' := [(h0, .inr (8, [.ref q1, .ref q2, .ref q3])), (q1, .inl (k.2.2.1, 240, .inr (.inl (fun _ => 0)))), (q2, .inl (k.2.1, 4, .inl (fun _ => 0))), (q3, .inl (k.2.1, 4, .inl (fun _ => 0)))]) F hiX9 tyX9 tyX9_ok nmX9 0 rfl rfl 2 (by decide) dX9_init_24 (List.mem_of_getElem? (i := 8) rfl) rfl hnm rfl rfl rfl rfl (Nat.le_of_ble_eq_true rfl) rfl rfl ?_
  refine jy_iconst (pc' := 28) (v := 0) F dX9_init_27 (by decide) rfl ?_
  refine jy_istore_n (pc' := 29) (lv' := [(1, .int 0), (0, .ref h0)]) F dX9_init_28 rfl (by decide) rfl rfl ?_
  refine jy_iload_n (pc' := 30) F 0 dX9_init_29 rfl rfl rfl ?_
  refine jy_iconst (pc' := 31) (v := 4) F dX9_init_30 (by decide) rfl ?_
  refine jy_icmp_ge (pc' := 34) (tgt := 47) F dX9_init_31 (by decide) rfl (fun h => absurd h (by decide)) (fun _ => ?_)
  refine jy_aload_n (pc' := 35) F 1 dX9_init_34 rfl rfl rfl ?_
  refine jy_get (pc' := 38) (C := RX9) (T := TX9) (N := 3) (ci := 8) (v := .ref q3) F hiX9 0 rfl rfl 2 (by decide) dX9_init_35 (List.mem_of_getElem? (i := 8) rfl) rfl rfl ?_
  refine jy_iload_n (pc' := 39) F 0 dX9_init_38 rfl rfl rfl ?_
  refine jy_iconst (pc' := 40) (v := (-1)) F dX9_init_39 (by decide) rfl ?_
  refine jy_iast (pc' := 41) (g := (upd (fun _ => 0) 0 (-1))) (ws' := [(h0, .inr (8, [.ref q1, .ref q2, .ref q3])), (q1, .inl (k.2.2.1, 240, .inr (.inl (fun _ => 0)))), (q2, .inl (k.2.1, 4, .inl (fun _ => 0))), (q3, .inl (k.2.1, 4, .inl (upd (fun _ => 0) 0 (-1))))]) F 3 1 rfl rfl dX9_init_40 (vp_in_nI (n := 0) (by omega) (by omega)) rfl rfl rfl ?_
  refine jy_iinc (pc' := 44) (v := 1) (lv' := [(1, .int 1), (0, .ref h0)]) F 0 dX9_init_41 rfl (by decide) (by decide) rfl rfl ?_
  refine jy_goto (tgt := 29) F dX9_init_44 (by decide) ?_
  refine jy_iload_n (pc' := 30) F 0 dX9_init_29 rfl rfl rfl ?_
  refine jy_iconst (pc' := 31) (v := 4) F dX9_init_30 (by decide) rfl ?_
  refine jy_icmp_ge (pc' := 34) (tgt := 47) F dX9_init_31 (by decide) rfl (fun h => absurd h (by decide)) (fun _ => ?_)
  refine jy_aload_n (pc' := 35) F 1 dX9_init_34 rfl rfl rfl ?_
  refine jy_get (pc' := 38) (C := RX9) (T := TX9) (N := 3) (ci := 8) (v := .ref q3) F hiX9 0 rfl rfl 2 (by decide) dX9_init_35 (List.mem_of_getElem? (i := 8) rfl) rfl rfl ?_
  refine jy_iload_n (pc' := 39) F 0 dX9_init_38 rfl rfl rfl ?_
  refine jy_iconst (pc' := 40) (v := (-1)) F dX9_init_39 (by decide) rfl ?_
  refine jy_iast (pc' := 41) (g := (upd (upd (fun _ => 0) 0 (-1)) 1 (-1))) (ws' := [(h0, .inr (8, [.ref q1, .ref q2, .ref q3])), (q1, .inl (k.2.2.1, 240, .inr (.inl (fun _ => 0)))), (q2, .inl (k.2.1, 4, .inl (fun _ => 0))), (q3, .inl (k.2.1, 4, .inl (upd (upd (fun _ => 0) 0 (-1)) 1 (-1))))]) F 3 1 rfl rfl dX9_init_40 (vp_in_nI (n := 1) (by omega) (by omega)) rfl rfl rfl ?_
  refine jy_iinc (pc' := 44) (v := 2) (lv' := [(1, .int 2), (0, .ref h0)]) F 0 dX9_init_41 rfl (by decide) (by decide) rfl rfl ?_
  refine jy_goto (tgt := 29) F dX9_init_44 (by decide) ?_
  refine jy_iload_n (pc' := 30) F 0 dX9_init_29 rfl rfl rfl ?_
  refine jy_iconst (pc' := 31) (v := 4) F dX9_init_30 (by decide) rfl ?_
  refine jy_icmp_ge (pc' := 34) (tgt := 47) F dX9_init_31 (by decide) rfl (fun h => absurd h (by decide)) (fun _ => ?_)
  refine jy_aload_n (pc' := 35) F 1 dX9_init_34 rfl rfl rfl ?_
  refine jy_get (pc' := 38) (C := RX9) (T := TX9) (N := 3) (ci := 8) (v := .ref q3) F hiX9 0 rfl rfl 2 (by decide) dX9_init_35 (List.mem_of_getElem? (i := 8) rfl) rfl rfl ?_
  refine jy_iload_n (pc' := 39) F 0 dX9_init_38 rfl rfl rfl ?_
  refine jy_iconst (pc' := 40) (v := (-1)) F dX9_init_39 (by decide) rfl ?_
  refine jy_iast (pc' := 41) (g := (upd (upd (upd (fun _ => 0) 0 (-1)) 1 (-1)) 2 (-1))) (ws' := [(h0, .inr (8, [.ref q1, .ref q2, .ref q3])), (q1, .inl (k.2.2.1, 240, .inr (.inl (fun _ => 0)))), (q2, .inl (k.2.1, 4, .inl (fun _ => 0))), (q3, .inl (k.2.1, 4, .inl (upd (upd (upd (fun _ => 0) 0 (-1)) 1 (-1)) 2 (-1))))]) F 3 1 rfl rfl dX9_init_40 (vp_in_nI (n := 2) (by omega) (by omega)) rfl rfl rfl ?_
  refine jy_iinc (pc' := 44) (v := 3) (lv' := [(1, .int 3), (0, .ref h0)]) F 0 dX9_init_41 rfl (by decide) (by decide) rfl rfl ?_
  refine jy_goto (tgt := 29) F dX9_init_44 (by decide) ?_
  refine jy_iload_n (pc' := 30) F 0 dX9_init_29 rfl rfl rfl ?_
  refine jy_iconst (pc' := 31) (v := 4) F dX9_init_30 (by decide) rfl ?_
  refine jy_icmp_ge (pc' := 34) (tgt := 47) F dX9_init_31 (by decide) rfl (fun h => absurd h (by decide)) (fun _ => ?_)
  refine jy_aload_n (pc' := 35) F 1 dX9_init_34 rfl rfl rfl ?_
  refine jy_get (pc' := 38) (C := RX9) (T := TX9) (N := 3) (ci := 8) (v := .ref q3) F hiX9 0 rfl rfl 2 (by decide) dX9_init_35 (List.mem_of_getElem? (i := 8) rfl) rfl rfl ?_
  refine jy_iload_n (pc' := 39) F 0 dX9_init_38 rfl rfl rfl ?_
  refine jy_iconst (pc' := 40) (v := (-1)) F dX9_init_39 (by decide) rfl ?_
  refine jy_iast (pc' := 41) (g := (upd (upd (upd (upd (fun _ => 0) 0 (-1)) 1 (-1)) 2 (-1)) 3 (-1))) (ws' := [(h0, .inr (8, [.ref q1, .ref q2, .ref q3])), (q1, .inl (k.2.2.1, 240, .inr (.inl (fun _ => 0)))), (q2, .inl (k.2.1, 4, .inl (fun _ => 0))), (q3, .inl (k.2.1, 4, .inl (upd (upd (upd (upd (fun _ => 0) 0 (-1)) 1 (-1)) 2 (-1)) 3 (-1))))]) F 3 1 rfl rfl dX9_init_40 (vp_in_nI (n := 3) (by omega) (by omega)) rfl rfl rfl ?_
  refine jy_iinc (pc' := 44) (v := 4) (lv' := [(1, .int 4), (0, .ref h0)]) F 0 dX9_init_41 rfl (by decide) (by decide) rfl rfl ?_
  refine jy_goto (tgt := 29) F dX9_init_44 (by decide) ?_
  refine jy_iload_n (pc' := 30) F 0 dX9_init_29 rfl rfl rfl ?_
  refine jy_iconst (pc' := 31) (v := 4) F dX9_init_30 (by decide) rfl ?_
  refine jy_icmp_ge (pc' := 34) (tgt := 47) F dX9_init_31 (by decide) rfl (fun _ => ?_) (fun h => absurd h (by decide))
  refine jy_widen (cells' := 3) (slots' := 248) (by decide) (by decide) ?_
  exact jy_vret F hr hlk (q1, q2, q3, (upd (upd (upd (upd (fun _ => 0) 0 (-1)) 1 (-1)) 2 (-1)) 3 (-1))) (fun j hj => by match j, hj with | 0, _ => rfl | 1, _ => rfl | 2, _ => rfl | 3, _ => rfl | n + 4, h => exact absurd h (by omega)) [0, 1, 2, 3] rfl (by decide) dX9_init_47
abbrev cX1_init : ByteArray := prog_3_method_1_code
def yX1_init : MethodName := ⟨RX1, "<init>", "()V"⟩
theorem hdX1_init : yX1_init.cls ≠ "java/lang/invoke/MethodHandle" ∧ yX1_init.cls ≠ "java/lang/invoke/VarHandle" ∧ (parseMethodDescriptor yX1_init.desc).map (fun d => d.parameters.length) = some 0 := by decide +kernel
theorem dX1_init_0 : decode cX1_init 0 = .ok (.aload_n 0, 1) := by decide +kernel
theorem dX1_init_1 : decode cX1_init 1 = .ok (.invokespecial 3, 3) := by decide +kernel
theorem dX1_init_4 : decode cX1_init 4 = .ok (.aload_n 0, 1) := by decide +kernel
theorem dX1_init_5 : decode cX1_init 5 = .ok (.new 9, 3) := by decide +kernel
theorem dX1_init_8 : decode cX1_init 8 = .ok (.dup, 1) := by decide +kernel
theorem dX1_init_9 : decode cX1_init 9 = .ok (.invokespecial 11, 3) := by decide +kernel
theorem dX1_init_12 : decode cX1_init 12 = .ok (.putfield 12, 3) := by decide +kernel
theorem dX1_init_15 : decode cX1_init 15 = .ok (.aload_n 0, 1) := by decide +kernel
theorem dX1_init_16 : decode cX1_init 16 = .ok (.iconst (-1), 1) := by decide +kernel
theorem dX1_init_17 : decode cX1_init 17 = .ok (.putfield 18, 3) := by decide +kernel
theorem dX1_init_20 : decode cX1_init 20 = .ok (.aload_n 0, 1) := by decide +kernel
theorem dX1_init_21 : decode cX1_init 21 = .ok (.iconst (-1), 1) := by decide +kernel
theorem dX1_init_22 : decode cX1_init 22 = .ok (.putfield 22, 3) := by decide +kernel
theorem dX1_init_25 : decode cX1_init 25 = .ok (.aload_n 0, 1) := by decide +kernel
theorem dX1_init_26 : decode cX1_init 26 = .ok (.sipush 900, 3) := by decide +kernel
theorem dX1_init_29 : decode cX1_init 29 = .ok (.newarray .byte, 2) := by decide +kernel
theorem dX1_init_31 : decode cX1_init 31 = .ok (.putfield 25, 3) := by decide +kernel
theorem dX1_init_34 : decode cX1_init 34 = .ok (.aload_n 0, 1) := by decide +kernel
theorem dX1_init_35 : decode cX1_init 35 = .ok (.bipush 6, 2) := by decide +kernel
theorem dX1_init_37 : decode cX1_init 37 = .ok (.newarray .int, 2) := by decide +kernel
theorem dX1_init_39 : decode cX1_init 39 = .ok (.putfield 29, 3) := by decide +kernel
theorem dX1_init_42 : decode cX1_init 42 = .ok (.aload_n 0, 1) := by decide +kernel
theorem dX1_init_43 : decode cX1_init 43 = .ok (.bipush 6, 2) := by decide +kernel
theorem dX1_init_45 : decode cX1_init 45 = .ok (.newarray .int, 2) := by decide +kernel
theorem dX1_init_47 : decode cX1_init 47 = .ok (.putfield 33, 3) := by decide +kernel
theorem dX1_init_50 : decode cX1_init 50 = .ok (.return_, 1) := by decide +kernel
def ws_c_X1_init : List Cond := .code yX1_init cX1_init 1 none :: ([.methodLink "NestedChecker$Reader" 3 ⟨"java/lang/Object", "<init>", "()V"⟩, .instanceMethod ⟨"java/lang/Object", "<init>", "()V"⟩, .code ⟨"java/lang/Object", "<init>", "()V"⟩ object_method_1_code 1 none, .classLink "NestedChecker$Reader" 9 "NestedChecker$Setting", .instantiable "NestedChecker$Setting" 7, .initialized "NestedChecker$Setting", .code ⟨"NestedChecker$Setting", "<init>", "()V"⟩ cX5_init 1 none, .methodLink "NestedChecker$Setting" 3 ⟨"java/lang/Object", "<init>", "()V"⟩, .classLink "NestedChecker$Setting" 9 "NestedChecker$Automaton", .instantiable "NestedChecker$Automaton" 12, .initialized "NestedChecker$Automaton", .code ⟨"NestedChecker$Automaton", "<init>", "()V"⟩ cX0_init 1 none, .methodLink "NestedChecker$Automaton" 3 ⟨"java/lang/Object", "<init>", "()V"⟩, .arrayClass .int, .fieldLink "NestedChecker$Automaton" 9 "NestedChecker$Automaton" "letter" "[I", .fieldLink "NestedChecker$Automaton" 15 "NestedChecker$Automaton" "from" "[I", .fieldLink "NestedChecker$Automaton" 18 "NestedChecker$Automaton" "to" "[I", .fieldLink "NestedChecker$Automaton" 21 "NestedChecker$Automaton" "symbol" "[I", .fieldLink "NestedChecker$Automaton" 24 "NestedChecker$Automaton" "step" "[I", .fieldLink "NestedChecker$Automaton" 27 "NestedChecker$Automaton" "stacked" "[I", .instanceMethod ⟨"NestedChecker$Automaton", "<init>", "()V"⟩, .fieldLink "NestedChecker$Setting" 12 "NestedChecker$Setting" "first" "LNestedChecker$Automaton;", .fieldLink "NestedChecker$Setting" 18 "NestedChecker$Setting" "second" "LNestedChecker$Automaton;", .classLink "NestedChecker$Setting" 21 "NestedChecker$Walk", .instantiable "NestedChecker$Walk" 8, .initialized "NestedChecker$Walk", .code ⟨"NestedChecker$Walk", "<init>", "()V"⟩ cX10_init 1 none, .methodLink "NestedChecker$Walk" 3 ⟨"java/lang/Object", "<init>", "()V"⟩, .fieldLink "NestedChecker$Walk" 9 "NestedChecker$Walk" "watched" "I", .fieldLink "NestedChecker$Walk" 15 "NestedChecker$Walk" "belowStates" "[I", .fieldLink "NestedChecker$Walk" 19 "NestedChecker$Walk" "belowPairs" "[I", .fieldLink "NestedChecker$Walk" 22 "NestedChecker$Walk" "belowCall" "[I", .instanceMethod ⟨"NestedChecker$Walk", "<init>", "()V"⟩, .fieldLink "NestedChecker$Setting" 24 "NestedChecker$Setting" "monitor" "LNestedChecker$Walk;", .instanceMethod ⟨"NestedChecker$Setting", "<init>", "()V"⟩, .fieldLink "NestedChecker$Reader" 12 "NestedChecker$Reader" "made" "LNestedChecker$Setting;", .fieldLink "NestedChecker$Reader" 18 "NestedChecker$Reader" "faultKind" "I", .fieldLink "NestedChecker$Reader" 22 "NestedChecker$Reader" "faultPlace" "I", .arrayClass .byte, .fieldLink "NestedChecker$Reader" 25 "NestedChecker$Reader" "tape" "[B", .fieldLink "NestedChecker$Reader" 29 "NestedChecker$Reader" "namePlace" "[I", .fieldLink "NestedChecker$Reader" 33 "NestedChecker$Reader" "nameSize" "[I"] ++ wsX50 ++ wsX00 ++ wsX100 ++ wsX10)
set_option maxRecDepth 20000 in
theorem g_c_X1_init_c_X5_init : GoodIn ws_c_X1_init ws_c_X5_init := goodIn_r _ [7, 8, 2, 3, 9, 10, 11, 12, 13, 14, 15, 16, 17, 18, 19, 20, 21, 22, 23, 24, 25, 26, 27, 28, 29, 30, 31, 32, 33, 34, 50, 51, 52, 53, 54, 55, 56, 57, 58, 59, 60, 61, 43, 44, 45, 46, 47, 48, 49, 62, 63, 64, 65, 66, 67, 68, 69] (by decide +kernel) (by decide +kernel)
set_option maxHeartbeats 4000000 in
set_option maxRecDepth 100000 in
theorem c_X1_init (l : Launch) (D : va_G) (k : jK) (h0 : Nat) (sz : Nat)  : Met l yX1_init ws_c_X1_init ({ frames := 3, cells := 22, slots := 1249, locals := 52 }) (jy_P [.ref h0] D vwCl (jT k) jW [(h0, .inr (1, [.null, .int 0, .int 0, .int 0, .null, .int 0, .int 0, .int 0, .int 0, .int 0, .null, .null]))] sz) (va_Qv (fun (u : Nat × Nat × Nat × Nat × Nat × Nat × Nat × Nat × Nat × Nat) => True) (jy_B D vwCl (va_A [(h0, .inr (1, [.null, .int 0, .int 0, .int 0, .null, .int 0, .int 0, .int 0, .int 0, .int 0, .null, .null]))] sz) (fun (u : Nat × Nat × Nat × Nat × Nat × Nat × Nat × Nat × Nat × Nat) => [(h0, .inr (1, [.ref u.1, .int 0, .int (-1), .int (-1), .ref u.2.1, .int 0, .int 0, .int 0, .int 0, .int 0, .ref u.2.2.1, .ref u.2.2.2.1])), (u.1, .inr (4, [.int 0, .int 0, .int 0, .int 0, .ref u.2.2.2.2.1, .ref u.2.2.2.2.2.1, .ref u.2.2.2.2.2.2.1])), (u.2.2.2.2.2.2.1, .inr (9, [.int (-1), .int 0, .int 0, .int 0, .int 0, .ref u.2.2.2.2.2.2.2.1, .ref u.2.2.2.2.2.2.2.2.1, .ref u.2.2.2.2.2.2.2.2.2])), (u.2.1, .inl (k.1, 900, .inl (fun _ => 0)))])) (va_A [(h0, .inr (1, [.null, .int 0, .int 0, .int 0, .null, .int 0, .int 0, .int 0, .int 0, .int 0, .null, .null]))] sz)) 22 1249 (va_A [(h0, .inr (1, [.null, .int 0, .int 0, .int 0, .null, .int 0, .int 0, .int 0, .int 0, .int 0, .null, .null]))] sz) := by
  refine jy_met (cc := cX1_init) (maxL := 1) (ret := none) (lv := [(0, .ref h0)]) (by decide) rfl (Nat.le_of_ble_eq_true rfl) rfl ?_
  intro p e s m below meth c F hr hlk hnm hN hA
  have hiX5 : ∀ w ∈ u_ws RX5 TX5 7, w ∈ ws_c_X1_init := fun w hw => List.mem_cons_of_mem _ (List.mem_append_left _ (List.mem_append_left _ (List.mem_append_left _ (List.mem_append_right _ hw))))
  have hiX0 : ∀ w ∈ u_ws RX0 TX0 12, w ∈ ws_c_X1_init := fun w hw => List.mem_cons_of_mem _ (List.mem_append_left _ (List.mem_append_left _ (List.mem_append_right _ hw)))
  have hiX10 : ∀ w ∈ u_ws RX10 TX10 8, w ∈ ws_c_X1_init := fun w hw => List.mem_cons_of_mem _ (List.mem_append_left _ (List.mem_append_right _ hw))
  have hiX1 : ∀ w ∈ u_ws RX1 TX1 12, w ∈ ws_c_X1_init := fun w hw => List.mem_cons_of_mem _ (List.mem_append_right _ hw)
  refine jy_aload_n (pc' := 1) F 0 dX1_init_0 rfl rfl rfl ?_
  refine jy_objInit (pc' := 4) F dX1_init_1 (List.mem_of_getElem? (i := 1) rfl) (List.mem_of_getElem? (i := 2) rfl) (List.mem_of_getElem? (i := 3) rfl) (by decide) (Nat.le_of_ble_eq_true rfl) rfl ?_
  refine jy_aload_n (pc' := 5) F 0 dX1_init_4 rfl rfl rfl ?_
  refine jy_new (pc' := 8) (C := RX5) (T := TX5) (N := 7) (ci := 4) (fs := [.int 0, .int 0, .int 0, .int 0, .null, .null, .null]) (cells' := 1) (slots' := 7) (ws' := fun q1 => [(h0, .inr (1, [.null, .int 0, .int 0, .int 0, .null, .int 0, .int 0, .int 0, .int 0, .int 0, .null, .null])), (q1, .inr (4, [.int 0, .int 0, .int 0, .int 0, .null, .null, .null]))]) F hA hiX5 tyX5 tyX5_ok rfl dfX5 dX1_init_5 (List.mem_of_getElem? (i := 4) rfl) (List.mem_of_getElem? (i := 5) rfl) (List.mem_of_getElem? (i := 6) rfl) rfl rfl (by decide) (by decide) (fun _ => rfl) rfl (fun q1 => ?_)
  refine jy_dup (pc' := 9) F dX1_init_8 rfl rfl ?_
  refine jy_callv (pc' := 12) (cells' := 19) (slots' := 337) (wr := [(h0, .inr (1, [.null, .int 0, .int 0, .int 0, .null, .int 0, .int 0, .int 0, .int 0, .int 0, .null, .null]))]) hA [1] [0] rfl rfl (by decide) (by decide) (jy_runIN (As := []) (b := q1) (st := [.ref q1, .ref h0]) F hN (fun sz => c_X5_init l D k q1 sz ) (jy_cIN F g_c_X1_init_c_X5_init rfl hdX5_init (List.mem_of_getElem? (i := 6) rfl) ((hN _ (List.mem_of_getElem? (i := 1) rfl)).2) (List.mem_of_getElem? (i := 35) rfl) rfl rfl rfl ⟨by decide, by decide⟩) [1] rfl (by decide) rfl rfl (Nat.le_of_ble_eq_true rfl) dX1_init_9 ⟨by decide, by decide⟩) rfl rfl rfl (fun u2 e3 => ?_)
  obtain ⟨q4, q5, q6, q7, q8, q9, q10, q11, q12, q13, q14, q15, q16, q17, q18, q19, q20, q21⟩ := u2
  refine jy_ws (ws' := [(h0, .inr (1, [.null, .int 0, .int 0, .int 0, .null, .int 0, .int 0, .int 0, .int 0, .int 0, .null, .null])), (q1, .inr (4, [.int 0, .int 0, .int 0, .int 0, .ref q4, .ref q5, .ref q6])), (q4, .inr (0, [.int 0, .int 0, .int 0, .int 0, .int 0, .int 0, .ref q7, .ref q8, .ref q9, .ref q10, .ref q11, .ref q12])), (q7, .inl (k.2.1, 20, .inl (fun _ => 0))), (q8, .inl (k.2.1, 20, .inl (fun _ => 0))), (q9, .inl (k.2.1, 20, .inl (fun _ => 0))), (q10, .inl (k.2.1, 20, .inl (fun _ => 0))), (q11, .inl (k.2.1, 6, .inl (fun _ => 0))), (q12, .inl (k.2.1, 18, .inl (fun _ => 0))), (q5, .inr (0, [.int 0, .int 0, .int 0, .int 0, .int 0, .int 0, .ref q13, .ref q14, .ref q15, .ref q16, .ref q17, .ref q18])), (q13, .inl (k.2.1, 20, .inl (fun _ => 0))), (q14, .inl (k.2.1, 20, .inl (fun _ => 0))), (q15, .inl (k.2.1, 20, .inl (fun _ => 0))), (q16, .inl (k.2.1, 20, .inl (fun _ => 0))), (q17, .inl (k.2.1, 6, .inl (fun _ => 0))), (q18, .inl (k.2.1, 18, .inl (fun _ => 0))), (q6, .inr (9, [.int (-1), .int 0, .int 0, .int 0, .int 0, .ref q19, .ref q20, .ref q21])), (q19, .inl (k.2.1, 30, .inl (fun _ => 0))), (q20, .inl (k.2.1, 30, .inl (fun _ => 0))), (q21, .inl (k.2.1, 30, .inl (fun _ => 0)))]) rfl ?_
  refine jy_put (pc' := 15) (C := RX1) (T := TX1) (N := 12) (ci := 1) (ws' := [(h0, .inr (1, [.ref q1, .int 0, .int 0, .int 0, .null, .int 0, .int 0, .int 0, .int 0, .int 0, .null, .null])), (q1, .inr (4, [.int 0, .int 0, .int 0, .int 0, .ref q4, .ref q5, .ref q6])), (q4, .inr (0, [.int 0, .int 0, .int 0, .int 0, .int 0, .int 0, .ref q7, .ref q8, .ref q9, .ref q10, .ref q11, .ref q12])), (q7, .inl (k.2.1, 20, .inl (fun _ => 0))), (q8, .inl (k.2.1, 20, .inl (fun _ => 0))), (q9, .inl (k.2.1, 20, .inl (fun _ => 0))), (q10, .inl (k.2.1, 20, .inl (fun _ => 0))), (q11, .inl (k.2.1, 6, .inl (fun _ => 0))), (q12, .inl (k.2.1, 18, .inl (fun _ => 0))), (q5, .inr (0, [.int 0, .int 0, .int 0, .int 0, .int 0, .int 0, .ref q13, .ref q14, .ref q15, .ref q16, .ref q17, .ref q18])), (q13, .inl (k.2.1, 20, .inl (fun _ => 0))), (q14, .inl (k.2.1, 20, .inl (fun _ => 0))), (q15, .inl (k.2.1, 20, .inl (fun _ => 0))), (q16, .inl (k.2.1, 20, .inl (fun _ => 0))), (q17, .inl (k.2.1, 6, .inl (fun _ => 0))), (q18, .inl (k.2.1, 18, .inl (fun _ => 0))), (q6, .inr (9, [.int (-1), .int 0, .int 0, .int 0, .int 0, .ref q19, .ref q20, .ref q21])), (q19, .inl (k.2.1, 30, .inl (fun _ => 0))), (q20, .inl (k.2.1, 30, .inl (fun _ => 0))), (q21, .inl (k.2.1, 30, .inl (fun _ => 0)))]) F hiX1 tyX1 tyX1_ok nmX1 0 rfl rfl 0 (by decide) dX1_init_12 (List.mem_of_getElem? (i := 36) rfl) rfl rfl rfl rfl (Nat.le_of_ble_eq_true rfl) rfl rfl ?_
  refine jy_aload_n (pc' := 16) F 0 dX1_init_15 rfl rfl rfl ?_
  refine jy_iconst (pc' := 17) (v := (-1)) F dX1_init_16 (by decide) rfl ?_
  refine jy_put (pc' := 20) (C := RX1) (T := TX1) (N := 12) (ci := 1) (ws' := [(h0, .inr (1, [.ref q1, .int 0, .int (-1), .int 0, .null, .int 0, .int 0, .int 0, .int 0, .int 0, .null, .null])), (q1, .inr (4, [.int 0, .int 0, .int 0, .int 0, .ref q4, .ref q5, .ref q6])), (q4, .inr (0, [.int 0, .int 0, .int 0, .int 0, .int 0, .int 0, .ref q7, .ref q8, .ref q9, .ref q10, .ref q11, .ref q12])), (q7, .inl (k.2.1, 20, .inl (fun _ => 0))), (q8, .inl (k.2.1, 20, .inl (fun _ => 0))), (q9, .inl (k.2.1, 20, .inl (fun _ => 0))), (q10, .inl (k.2.1, 20, .inl (fun _ => 0))), (q11, .inl (k.2.1, 6, .inl (fun _ => 0))), (q12, .inl (k.2.1, 18, .inl (fun _ => 0))), (q5, .inr (0, [.int 0, .int 0, .int 0, .int 0, .int 0, .int 0, .ref q13, .ref q14, .ref q15, .ref q16, .ref q17, .ref q18])), (q13, .inl (k.2.1, 20, .inl (fun _ => 0))), (q14, .inl (k.2.1, 20, .inl (fun _ => 0))), (q15, .inl (k.2.1, 20, .inl (fun _ => 0))), (q16, .inl (k.2.1, 20, .inl (fun _ => 0))), (q17, .inl (k.2.1, 6, .inl (fun _ => 0))), (q18, .inl (k.2.1, 18, .inl (fun _ => 0))), (q6, .inr (9, [.int (-1), .int 0, .int 0, .int 0, .int 0, .ref q19, .ref q20, .ref q21])), (q19, .inl (k.2.1, 30, .inl (fun _ => 0))), (q20, .inl (k.2.1, 30, .inl (fun _ => 0))), (q21, .inl (k.2.1, 30, .inl (fun _ => 0)))]) F hiX1 tyX1 tyX1_ok nmX1 0 rfl rfl 2 (by decide) dX1_init_17 (List.mem_of_getElem? (i := 37) rfl) rfl rfl rfl rfl (Nat.le_of_ble_eq_true rfl) rfl rfl ?_
  refine jy_aload_n (pc' := 21) F 0 dX1_init_20 rfl rfl rfl ?_
  refine jy_iconst (pc' := 22) (v := (-1)) F dX1_init_21 (by decide) rfl ?_
  refine jy_put (pc' := 25) (C := RX1) (T := TX1) (N := 12) (ci := 1) (ws' := [(h0, .inr (1, [.ref q1, .int 0, .int (-1), .int (-1), .null, .int 0, .int 0, .int 0, .int 0, .int 0, .null, .null])), (q1, .inr (4, [.int 0, .int 0, .int 0, .int 0, .ref q4, .ref q5, .ref q6])), (q4, .inr (0, [.int 0, .int 0, .int 0, .int 0, .int 0, .int 0, .ref q7, .ref q8, .ref q9, .ref q10, .ref q11, .ref q12])), (q7, .inl (k.2.1, 20, .inl (fun _ => 0))), (q8, .inl (k.2.1, 20, .inl (fun _ => 0))), (q9, .inl (k.2.1, 20, .inl (fun _ => 0))), (q10, .inl (k.2.1, 20, .inl (fun _ => 0))), (q11, .inl (k.2.1, 6, .inl (fun _ => 0))), (q12, .inl (k.2.1, 18, .inl (fun _ => 0))), (q5, .inr (0, [.int 0, .int 0, .int 0, .int 0, .int 0, .int 0, .ref q13, .ref q14, .ref q15, .ref q16, .ref q17, .ref q18])), (q13, .inl (k.2.1, 20, .inl (fun _ => 0))), (q14, .inl (k.2.1, 20, .inl (fun _ => 0))), (q15, .inl (k.2.1, 20, .inl (fun _ => 0))), (q16, .inl (k.2.1, 20, .inl (fun _ => 0))), (q17, .inl (k.2.1, 6, .inl (fun _ => 0))), (q18, .inl (k.2.1, 18, .inl (fun _ => 0))), (q6, .inr (9, [.int (-1), .int 0, .int 0, .int 0, .int 0, .ref q19, .ref q20, .ref q21])), (q19, .inl (k.2.1, 30, .inl (fun _ => 0))), (q20, .inl (k.2.1, 30, .inl (fun _ => 0))), (q21, .inl (k.2.1, 30, .inl (fun _ => 0)))]) F hiX1 tyX1 tyX1_ok nmX1 0 rfl rfl 3 (by decide) dX1_init_22 (List.mem_of_getElem? (i := 38) rfl) rfl rfl rfl rfl (Nat.le_of_ble_eq_true rfl) rfl rfl ?_
  refine jy_aload_n (pc' := 26) F 0 dX1_init_25 rfl rfl rfl ?_
  refine jy_sipush (pc' := 29) (v := 900) F dX1_init_26 (by decide) rfl ?_
  refine jy_newa (pc' := 31) (N' := 900) (a0 := (900, .inl (fun _ => 0))) (cells' := 20) (slots' := 1237) (ws' := fun q22 => [(h0, .inr (1, [.ref q1, .int 0, .int (-1), .int (-1), .null, .int 0, .int 0, .int 0, .int 0, .int 0, .null, .null])), (q1, .inr (4, [.int 0, .int 0, .int 0, .int 0, .ref q4, .ref q5, .ref q6])), (q4, .inr (0, [.int 0, .int 0, .int 0, .int 0, .int 0, .int 0, .ref q7, .ref q8, .ref q9, .ref q10, .ref q11, .ref q12])), (q7, .inl (k.2.1, 20, .inl (fun _ => 0))), (q8, .inl (k.2.1, 20, .inl (fun _ => 0))), (q9, .inl (k.2.1, 20, .inl (fun _ => 0))), (q10, .inl (k.2.1, 20, .inl (fun _ => 0))), (q11, .inl (k.2.1, 6, .inl (fun _ => 0))), (q12, .inl (k.2.1, 18, .inl (fun _ => 0))), (q5, .inr (0, [.int 0, .int 0, .int 0, .int 0, .int 0, .int 0, .ref q13, .ref q14, .ref q15, .ref q16, .ref q17, .ref q18])), (q13, .inl (k.2.1, 20, .inl (fun _ => 0))), (q14, .inl (k.2.1, 20, .inl (fun _ => 0))), (q15, .inl (k.2.1, 20, .inl (fun _ => 0))), (q16, .inl (k.2.1, 20, .inl (fun _ => 0))), (q17, .inl (k.2.1, 6, .inl (fun _ => 0))), (q18, .inl (k.2.1, 18, .inl (fun _ => 0))), (q6, .inr (9, [.int (-1), .int 0, .int 0, .int 0, .int 0, .ref q19, .ref q20, .ref q21])), (q19, .inl (k.2.1, 30, .inl (fun _ => 0))), (q20, .inl (k.2.1, 30, .inl (fun _ => 0))), (q21, .inl (k.2.1, 30, .inl (fun _ => 0))), (q22, .inl (k.1, 900, .inl (fun _ => 0)))]) F hA 0 rfl rfl dX1_init_29 (List.mem_of_getElem? (i := 39) rfl) (fun _ => rfl) (by decide) (by decide) (by decide) rfl rfl (by decide) (by decide) (fun _ => rfl) rfl (fun q22 => ?_)
  refine jy_putF (pc' := 34) (C := RX1) (T := TX1) (N := 12) (ci := 1) (ws' := [(h0, .inr (1, [.ref q1, .int 0, .int (-1), .int (-1), .ref q22, .int 0, .int 0, .int 0, .int 0, .int 0, .null, .null])), (q1, .inr (4, [.int 0, .int 0, .int 0, .int 0, .ref q4, .ref q5, .ref q6])), (q4, .inr (0, [.int 0, .int 0, .int 0, .int 0, .int 0, .int 0, .ref q7, .ref q8, .ref q9, .ref q10, .ref q11, .ref q12])), (q7, .inl (k.2.1, 20, .inl (fun _ => 0))), (q8, .inl (k.2.1, 20, .inl (fun _ => 0))), (q9, .inl (k.2.1, 20, .inl (fun _ => 0))), (q10, .inl (k.2.1, 20, .inl (fun _ => 0))), (q11, .inl (k.2.1, 6, .inl (fun _ => 0))), (q12, .inl (k.2.1, 18, .inl (fun _ => 0))), (q5, .inr (0, [.int 0, .int 0, .int 0, .int 0, .int 0, .int 0, .ref q13, .ref q14, .ref q15, .ref q16, .ref q17, .ref q18])), (q13, .inl (k.2.1, 20, .inl (fun _ => 0))), (q14, .inl (k.2.1, 20, .inl (fun _ => 0))), (q15, .inl (k.2.1, 20, .inl (fun _ => 0))), (q16, .inl (k.2.1, 20, .inl (fun _ => 0))), (q17, .inl (k.2.1, 6, .inl (fun _ => 0))), (q18, .inl (k.2.1, 18, .inl (fun _ => 0))), (q6, .inr (9, [.int (-1), .int 0, .int 0, .int 0, .int 0, .ref q19, .ref q20, .ref q21])), (q19, .inl (k.2.1, 30, .inl (fun _ => 0))), (q20, .inl (k.2.1, 30, .inl (fun _ => 0))), (q21, .inl (k.2.1, 30, .inl (fun _ => 0))), (q22, .inl (k.1, 900, .inl (fun _ => 0)))]) F hiX1 tyX1 tyX1_ok nmX1 0 rfl rfl 4 (by decide) dX1_init_31 (List.mem_of_getElem? (i := 40) rfl) rfl hnm rfl rfl rfl rfl (Nat.le_of_ble_eq_true rfl) rfl rfl ?_
  refine jy_aload_n (pc' := 35) F 0 dX1_init_34 rfl rfl rfl ?_
  refine jy_bipush (pc' := 37) (v := 6) F dX1_init_35 (by decide) rfl ?_
  refine jy_newa (pc' := 39) (N' := 6) (a0 := (6, .inl (fun _ => 0))) (cells' := 21) (slots' := 1243) (ws' := fun q23 => [(h0, .inr (1, [.ref q1, .int 0, .int (-1), .int (-1), .ref q22, .int 0, .int 0, .int 0, .int 0, .int 0, .null, .null])), (q1, .inr (4, [.int 0, .int 0, .int 0, .int 0, .ref q4, .ref q5, .ref q6])), (q4, .inr (0, [.int 0, .int 0, .int 0, .int 0, .int 0, .int 0, .ref q7, .ref q8, .ref q9, .ref q10, .ref q11, .ref q12])), (q7, .inl (k.2.1, 20, .inl (fun _ => 0))), (q8, .inl (k.2.1, 20, .inl (fun _ => 0))), (q9, .inl (k.2.1, 20, .inl (fun _ => 0))), (q10, .inl (k.2.1, 20, .inl (fun _ => 0))), (q11, .inl (k.2.1, 6, .inl (fun _ => 0))), (q12, .inl (k.2.1, 18, .inl (fun _ => 0))), (q5, .inr (0, [.int 0, .int 0, .int 0, .int 0, .int 0, .int 0, .ref q13, .ref q14, .ref q15, .ref q16, .ref q17, .ref q18])), (q13, .inl (k.2.1, 20, .inl (fun _ => 0))), (q14, .inl (k.2.1, 20, .inl (fun _ => 0))), (q15, .inl (k.2.1, 20, .inl (fun _ => 0))), (q16, .inl (k.2.1, 20, .inl (fun _ => 0))), (q17, .inl (k.2.1, 6, .inl (fun _ => 0))), (q18, .inl (k.2.1, 18, .inl (fun _ => 0))), (q6, .inr (9, [.int (-1), .int 0, .int 0, .int 0, .int 0, .ref q19, .ref q20, .ref q21])), (q19, .inl (k.2.1, 30, .inl (fun _ => 0))), (q20, .inl (k.2.1, 30, .inl (fun _ => 0))), (q21, .inl (k.2.1, 30, .inl (fun _ => 0))), (q22, .inl (k.1, 900, .inl (fun _ => 0))), (q23, .inl (k.2.1, 6, .inl (fun _ => 0)))]) F hA 1 rfl rfl dX1_init_37 (List.mem_of_getElem? (i := 14) rfl) (fun _ => rfl) (by decide) (by decide) (by decide) rfl rfl (by decide) (by decide) (fun _ => rfl) rfl (fun q23 => ?_)
  refine jy_putF (pc' := 42) (C := RX1) (T := TX1) (N := 12) (ci := 1) (ws' := [(h0, .inr (1, [.ref q1, .int 0, .int (-1), .int (-1), .ref q22, .int 0, .int 0, .int 0, .int 0, .int 0, .ref q23, .null])), (q1, .inr (4, [.int 0, .int 0, .int 0, .int 0, .ref q4, .ref q5, .ref q6])), (q4, .inr (0, [.int 0, .int 0, .int 0, .int 0, .int 0, .int 0, .ref q7, .ref q8, .ref q9, .ref q10, .ref q11, .ref q12])), (q7, .inl (k.2.1, 20, .inl (fun _ => 0))), (q8, .inl (k.2.1, 20, .inl (fun _ => 0))), (q9, .inl (k.2.1, 20, .inl (fun _ => 0))), (q10, .inl (k.2.1, 20, .inl (fun _ => 0))), (q11, .inl (k.2.1, 6, .inl (fun _ => 0))), (q12, .inl (k.2.1, 18, .inl (fun _ => 0))), (q5, .inr (0, [.int 0, .int 0, .int 0, .int 0, .int 0, .int 0, .ref q13, .ref q14, .ref q15, .ref q16, .ref q17, .ref q18])), (q13, .inl (k.2.1, 20, .inl (fun _ => 0))), (q14, .inl (k.2.1, 20, .inl (fun _ => 0))), (q15, .inl (k.2.1, 20, .inl (fun _ => 0))), (q16, .inl (k.2.1, 20, .inl (fun _ => 0))), (q17, .inl (k.2.1, 6, .inl (fun _ => 0))), (q18, .inl (k.2.1, 18, .inl (fun _ => 0))), (q6, .inr (9, [.int (-1), .int 0, .int 0, .int 0, .int 0, .ref q19, .ref q20, .ref q21])), (q19, .inl (k.2.1, 30, .inl (fun _ => 0))), (q20, .inl (k.2.1, 30, .inl (fun _ => 0))), (q21, .inl (k.2.1, 30, .inl (fun _ => 0))), (q22, .inl (k.1, 900, .inl (fun _ => 0))), (q23, .inl (k.2.1, 6, .inl (fun _ => 0)))]) F hiX1 tyX1 tyX1_ok nmX1 0 rfl rfl 10 (by decide) dX1_init_39 (List.mem_of_getElem? (i := 41) rfl) rfl hnm rfl rfl rfl rfl (Nat.le_of_ble_eq_true rfl) rfl rfl ?_
  refine jy_aload_n (pc' := 43) F 0 dX1_init_42 rfl rfl rfl ?_
  refine jy_bipush (pc' := 45) (v := 6) F dX1_init_43 (by decide) rfl ?_
  refine jy_newa (pc' := 47) (N' := 6) (a0 := (6, .inl (fun _ => 0))) (cells' := 22) (slots' := 1249) (ws' := fun q24 => [(h0, .inr (1, [.ref q1, .int 0, .int (-1), .int (-1), .ref q22, .int 0, .int 0, .int 0, .int 0, .int 0, .ref q23, .null])), (q1, .inr (4, [.int 0, .int 0, .int 0, .int 0, .ref q4, .ref q5, .ref q6])), (q4, .inr (0, [.int 0, .int 0, .int 0, .int 0, .int 0, .int 0, .ref q7, .ref q8, .ref q9, .ref q10, .ref q11, .ref q12])), (q7, .inl (k.2.1, 20, .inl (fun _ => 0))), (q8, .inl (k.2.1, 20, .inl (fun _ => 0))), (q9, .inl (k.2.1, 20, .inl (fun _ => 0))), (q10, .inl (k.2.1, 20, .inl (fun _ => 0))), (q11, .inl (k.2.1, 6, .inl (fun _ => 0))), (q12, .inl (k.2.1, 18, .inl (fun _ => 0))), (q5, .inr (0, [.int 0, .int 0, .int 0, .int 0, .int 0, .int 0, .ref q13, .ref q14, .ref q15, .ref q16, .ref q17, .ref q18])), (q13, .inl (k.2.1, 20, .inl (fun _ => 0))), (q14, .inl (k.2.1, 20, .inl (fun _ => 0))), (q15, .inl (k.2.1, 20, .inl (fun _ => 0))), (q16, .inl (k.2.1, 20, .inl (fun _ => 0))), (q17, .inl (k.2.1, 6, .inl (fun _ => 0))), (q18, .inl (k.2.1, 18, .inl (fun _ => 0))), (q6, .inr (9, [.int (-1), .int 0, .int 0, .int 0, .int 0, .ref q19, .ref q20, .ref q21])), (q19, .inl (k.2.1, 30, .inl (fun _ => 0))), (q20, .inl (k.2.1, 30, .inl (fun _ => 0))), (q21, .inl (k.2.1, 30, .inl (fun _ => 0))), (q22, .inl (k.1, 900, .inl (fun _ => 0))), (q23, .inl (k.2.1, 6, .inl (fun _ => 0))), (q24, .inl (k.2.1, 6, .inl (fun _ => 0)))]) F hA 1 rfl rfl dX1_init_45 (List.mem_of_getElem? (i := 14) rfl) (fun _ => rfl) (by decide) (by decide) (by decide) rfl rfl (by decide) (by decide) (fun _ => rfl) rfl (fun q24 => ?_)
  refine jy_putF (pc' := 50) (C := RX1) (T := TX1) (N := 12) (ci := 1) (ws' := [(h0, .inr (1, [.ref q1, .int 0, .int (-1), .int (-1), .ref q22, .int 0, .int 0, .int 0, .int 0, .int 0, .ref q23, .ref q24])), (q1, .inr (4, [.int 0, .int 0, .int 0, .int 0, .ref q4, .ref q5, .ref q6])), (q4, .inr (0, [.int 0, .int 0, .int 0, .int 0, .int 0, .int 0, .ref q7, .ref q8, .ref q9, .ref q10, .ref q11, .ref q12])), (q7, .inl (k.2.1, 20, .inl (fun _ => 0))), (q8, .inl (k.2.1, 20, .inl (fun _ => 0))), (q9, .inl (k.2.1, 20, .inl (fun _ => 0))), (q10, .inl (k.2.1, 20, .inl (fun _ => 0))), (q11, .inl (k.2.1, 6, .inl (fun _ => 0))), (q12, .inl (k.2.1, 18, .inl (fun _ => 0))), (q5, .inr (0, [.int 0, .int 0, .int 0, .int 0, .int 0, .int 0, .ref q13, .ref q14, .ref q15, .ref q16, .ref q17, .ref q18])), (q13, .inl (k.2.1, 20, .inl (fun _ => 0))), (q14, .inl (k.2.1, 20, .inl (fun _ => 0))), (q15, .inl (k.2.1, 20, .inl (fun _ => 0))), (q16, .inl (k.2.1, 20, .inl (fun _ => 0))), (q17, .inl (k.2.1, 6, .inl (fun _ => 0))), (q18, .inl (k.2.1, 18, .inl (fun _ => 0))), (q6, .inr (9, [.int (-1), .int 0, .int 0, .int 0, .int 0, .ref q19, .ref q20, .ref q21])), (q19, .inl (k.2.1, 30, .inl (fun _ => 0))), (q20, .inl (k.2.1, 30, .inl (fun _ => 0))), (q21, .inl (k.2.1, 30, .inl (fun _ => 0))), (q22, .inl (k.1, 900, .inl (fun _ => 0))), (q23, .inl (k.2.1, 6, .inl (fun _ => 0))), (q24, .inl (k.2.1, 6, .inl (fun _ => 0)))]) F hiX1 tyX1 tyX1_ok nmX1 0 rfl rfl 11 (by decide) dX1_init_47 (List.mem_of_getElem? (i := 42) rfl) rfl hnm rfl rfl rfl rfl (Nat.le_of_ble_eq_true rfl) rfl rfl ?_
  refine jy_widen (cells' := 22) (slots' := 1249) (by decide) (by decide) ?_
  exact jy_vret F hr hlk (q1, q22, q23, q24, q4, q5, q6, q19, q20, q21) (trivial) [0, 1, 16, 20] rfl (by decide) dX1_init_50
abbrev cX6_init : ByteArray := prog_8_method_1_code
def yX6_init : MethodName := ⟨RX6, "<init>", "(I)V"⟩
theorem hdX6_init : yX6_init.cls ≠ "java/lang/invoke/MethodHandle" ∧ yX6_init.cls ≠ "java/lang/invoke/VarHandle" ∧ (parseMethodDescriptor yX6_init.desc).map (fun d => d.parameters.length) = some 1 := by decide +kernel
theorem dX6_init_0 : decode cX6_init 0 = .ok (.aload_n 0, 1) := by decide +kernel
theorem dX6_init_1 : decode cX6_init 1 = .ok (.invokespecial 3, 3) := by decide +kernel
theorem dX6_init_4 : decode cX6_init 4 = .ok (.iload_n 1, 1) := by decide +kernel
theorem dX6_init_5 : decode cX6_init 5 = .ok (.iconst 1, 1) := by decide +kernel
theorem dX6_init_6 : decode cX6_init 6 = .ok (.invokestatic 9, 3) := by decide +kernel
theorem dX6_init_9 : decode cX6_init 9 = .ok (.istore_n 2, 1) := by decide +kernel
theorem dX6_init_10 : decode cX6_init 10 = .ok (.aload_n 0, 1) := by decide +kernel
theorem dX6_init_11 : decode cX6_init 11 = .ok (.iload_n 2, 1) := by decide +kernel
theorem dX6_init_12 : decode cX6_init 12 = .ok (.newarray .int, 2) := by decide +kernel
theorem dX6_init_14 : decode cX6_init 14 = .ok (.putfield 15, 3) := by decide +kernel
theorem dX6_init_17 : decode cX6_init 17 = .ok (.aload_n 0, 1) := by decide +kernel
theorem dX6_init_18 : decode cX6_init 18 = .ok (.iload_n 2, 1) := by decide +kernel
theorem dX6_init_19 : decode cX6_init 19 = .ok (.newarray .int, 2) := by decide +kernel
theorem dX6_init_21 : decode cX6_init 21 = .ok (.putfield 21, 3) := by decide +kernel
theorem dX6_init_24 : decode cX6_init 24 = .ok (.aload_n 0, 1) := by decide +kernel
theorem dX6_init_25 : decode cX6_init 25 = .ok (.iload_n 2, 1) := by decide +kernel
theorem dX6_init_26 : decode cX6_init 26 = .ok (.newarray .int, 2) := by decide +kernel
theorem dX6_init_28 : decode cX6_init 28 = .ok (.putfield 24, 3) := by decide +kernel
theorem dX6_init_31 : decode cX6_init 31 = .ok (.aload_n 0, 1) := by decide +kernel
theorem dX6_init_32 : decode cX6_init 32 = .ok (.iload_n 2, 1) := by decide +kernel
theorem dX6_init_33 : decode cX6_init 33 = .ok (.newarray .int, 2) := by decide +kernel
theorem dX6_init_35 : decode cX6_init 35 = .ok (.putfield 27, 3) := by decide +kernel
theorem dX6_init_38 : decode cX6_init 38 = .ok (.return_, 1) := by decide +kernel
def ws_c_X6_init_576 : List Cond := .code yX6_init cX6_init 3 none :: ([.methodLink "NestedChecker$Shelf" 3 ⟨"java/lang/Object", "<init>", "()V"⟩, .instanceMethod ⟨"java/lang/Object", "<init>", "()V"⟩, .code ⟨"java/lang/Object", "<init>", "()V"⟩ object_method_1_code 1 none, .methodLink "NestedChecker$Shelf" 9 ⟨"java/lang/Math", "max", "(II)I"⟩, .static ⟨"java/lang/Math", "max", "(II)I"⟩, .initialized "java/lang/Math", .code ⟨"java/lang/Math", "max", "(II)I"⟩ Lib.Math.max.code 2 (some .int), .arrayClass .int, .fieldLink "NestedChecker$Shelf" 15 "NestedChecker$Shelf" "items" "[I", .fieldLink "NestedChecker$Shelf" 21 "NestedChecker$Shelf" "length" "[I", .fieldLink "NestedChecker$Shelf" 24 "NestedChecker$Shelf" "code" "[I", .fieldLink "NestedChecker$Shelf" 27 "NestedChecker$Shelf" "mood" "[I"] ++ wsX60)
set_option maxHeartbeats 4000000 in
set_option maxRecDepth 100000 in
theorem c_X6_init_576 (l : Launch) (D : va_G) (k : jK) (h0 : Nat) (sz : Nat)  : Met l yX6_init ws_c_X6_init_576 ({ frames := 1, cells := 4, slots := 2304, locals := 13 }) (jy_P [.ref h0, .int 576] D vwCl (jT k) jW [(h0, .inr (5, [.int 0, .null, .null, .null, .null]))] sz) (va_Qv (fun (u : Unit) => True) (jy_B D vwCl (va_A [(h0, .inr (5, [.int 0, .null, .null, .null, .null]))] sz) (fun (u : Unit) => [])) (va_A [(h0, .inr (5, [.int 0, .null, .null, .null, .null]))] sz)) 4 2304 (va_A [(h0, .inr (5, [.int 0, .null, .null, .null, .null]))] sz) := by
  refine jy_met (cc := cX6_init) (maxL := 3) (ret := none) (lv := [(0, .ref h0), (1, .int 576)]) (by decide) rfl (Nat.le_of_ble_eq_true rfl) rfl ?_
  intro p e s m below meth c F hr hlk hnm hN hA
  have hiX6 : ∀ w ∈ u_ws RX6 TX6 5, w ∈ ws_c_X6_init_576 := fun w hw => List.mem_cons_of_mem _ (List.mem_append_right _ hw)
  refine jy_aload_n (pc' := 1) F 0 dX6_init_0 rfl rfl rfl ?_
  refine jy_objInit (pc' := 4) F dX6_init_1 (List.mem_of_getElem? (i := 1) rfl) (List.mem_of_getElem? (i := 2) rfl) (List.mem_of_getElem? (i := 3) rfl) (by decide) (Nat.le_of_ble_eq_true rfl) rfl ?_
  refine jy_iload_n (pc' := 5) F 1 dX6_init_4 rfl rfl rfl ?_
  refine jy_iconst (pc' := 6) (v := 1) F dX6_init_5 (by decide) rfl ?_
  refine jy_mmax (pc' := 9) (v := 576) F dX6_init_6 (List.mem_of_getElem? (i := 4) rfl) (List.mem_of_getElem? (i := 5) rfl) (List.mem_of_getElem? (i := 6) rfl) (List.mem_of_getElem? (i := 7) rfl) (by decide) (Nat.le_of_ble_eq_true rfl) (by decide) (by decide) (by decide) rfl ?_
  refine jy_istore_n (pc' := 10) (lv' := [(2, .int 576), (0, .ref h0), (1, .int 576)]) F dX6_init_9 rfl (by decide) rfl rfl ?_
  refine jy_aload_n (pc' := 11) F 1 dX6_init_10 rfl rfl rfl ?_
  refine jy_iload_n (pc' := 12) F 0 dX6_init_11 rfl rfl rfl ?_
  refine jy_newa (pc' := 14) (N' := 576) (a0 := (576, .inl (fun _ => 0))) (cells' := 1) (slots' := 576) (ws' := fun q1 => [(h0, .inr (5, [.int 0, .null, .null, .null, .null])), (q1, .inl (k.2.1, 576, .inl (fun _ => 0)))]) F hA 1 rfl rfl dX6_init_12 (List.mem_of_getElem? (i := 8) rfl) (fun _ => rfl) (by decide) (by decide) (by decide) rfl rfl (by decide) (by decide) (fun _ => rfl) rfl (fun q1 => ?_)
  refine jy_putF (pc' := 17) (C := RX6) (T := TX6) (N := 5) (ci := 5) (ws' := [(h0, .inr (5, [.int 0, .ref q1, .null, .null, .null])), (q1, .inl (k.2.1, 576, .inl (fun _ => 0)))]) F hiX6 tyX6 tyX6_ok nmX6 0 rfl rfl 1 (by decide) dX6_init_14 (List.mem_of_getElem? (i := 9) rfl) rfl hnm rfl rfl rfl rfl (Nat.le_of_ble_eq_true rfl) rfl rfl ?_
  refine jy_aload_n (pc' := 18) F 1 dX6_init_17 rfl rfl rfl ?_
  refine jy_iload_n (pc' := 19) F 0 dX6_init_18 rfl rfl rfl ?_
  refine jy_newa (pc' := 21) (N' := 576) (a0 := (576, .inl (fun _ => 0))) (cells' := 2) (slots' := 1152) (ws' := fun q2 => [(h0, .inr (5, [.int 0, .ref q1, .null, .null, .null])), (q1, .inl (k.2.1, 576, .inl (fun _ => 0))), (q2, .inl (k.2.1, 576, .inl (fun _ => 0)))]) F hA 1 rfl rfl dX6_init_19 (List.mem_of_getElem? (i := 8) rfl) (fun _ => rfl) (by decide) (by decide) (by decide) rfl rfl (by decide) (by decide) (fun _ => rfl) rfl (fun q2 => ?_)
  refine jy_putF (pc' := 24) (C := RX6) (T := TX6) (N := 5) (ci := 5) (ws' := [(h0, .inr (5, [.int 0, .ref q1, .ref q2, .null, .null])), (q1, .inl (k.2.1, 576, .inl (fun _ => 0))), (q2, .inl (k.2.1, 576, .inl (fun _ => 0)))]) F hiX6 tyX6 tyX6_ok nmX6 0 rfl rfl 2 (by decide) dX6_init_21 (List.mem_of_getElem? (i := 10) rfl) rfl hnm rfl rfl rfl rfl (Nat.le_of_ble_eq_true rfl) rfl rfl ?_
  refine jy_aload_n (pc' := 25) F 1 dX6_init_24 rfl rfl rfl ?_
  refine jy_iload_n (pc' := 26) F 0 dX6_init_25 rfl rfl rfl ?_
  refine jy_newa (pc' := 28) (N' := 576) (a0 := (576, .inl (fun _ => 0))) (cells' := 3) (slots' := 1728) (ws' := fun q3 => [(h0, .inr (5, [.int 0, .ref q1, .ref q2, .null, .null])), (q1, .inl (k.2.1, 576, .inl (fun _ => 0))), (q2, .inl (k.2.1, 576, .inl (fun _ => 0))), (q3, .inl (k.2.1, 576, .inl (fun _ => 0)))]) F hA 1 rfl rfl dX6_init_26 (List.mem_of_getElem? (i := 8) rfl) (fun _ => rfl) (by decide) (by decide) (by decide) rfl rfl (by decide) (by decide) (fun _ => rfl) rfl (fun q3 => ?_)
  refine jy_putF (pc' := 31) (C := RX6) (T := TX6) (N := 5) (ci := 5) (ws' := [(h0, .inr (5, [.int 0, .ref q1, .ref q2, .ref q3, .null])), (q1, .inl (k.2.1, 576, .inl (fun _ => 0))), (q2, .inl (k.2.1, 576, .inl (fun _ => 0))), (q3, .inl (k.2.1, 576, .inl (fun _ => 0)))]) F hiX6 tyX6 tyX6_ok nmX6 0 rfl rfl 3 (by decide) dX6_init_28 (List.mem_of_getElem? (i := 11) rfl) rfl hnm rfl rfl rfl rfl (Nat.le_of_ble_eq_true rfl) rfl rfl ?_
  refine jy_aload_n (pc' := 32) F 1 dX6_init_31 rfl rfl rfl ?_
  refine jy_iload_n (pc' := 33) F 0 dX6_init_32 rfl rfl rfl ?_
  refine jy_newa (pc' := 35) (N' := 576) (a0 := (576, .inl (fun _ => 0))) (cells' := 4) (slots' := 2304) (ws' := fun q4 => [(h0, .inr (5, [.int 0, .ref q1, .ref q2, .ref q3, .null])), (q1, .inl (k.2.1, 576, .inl (fun _ => 0))), (q2, .inl (k.2.1, 576, .inl (fun _ => 0))), (q3, .inl (k.2.1, 576, .inl (fun _ => 0))), (q4, .inl (k.2.1, 576, .inl (fun _ => 0)))]) F hA 1 rfl rfl dX6_init_33 (List.mem_of_getElem? (i := 8) rfl) (fun _ => rfl) (by decide) (by decide) (by decide) rfl rfl (by decide) (by decide) (fun _ => rfl) rfl (fun q4 => ?_)
  refine jy_putF (pc' := 38) (C := RX6) (T := TX6) (N := 5) (ci := 5) (ws' := [(h0, .inr (5, [.int 0, .ref q1, .ref q2, .ref q3, .ref q4])), (q1, .inl (k.2.1, 576, .inl (fun _ => 0))), (q2, .inl (k.2.1, 576, .inl (fun _ => 0))), (q3, .inl (k.2.1, 576, .inl (fun _ => 0))), (q4, .inl (k.2.1, 576, .inl (fun _ => 0)))]) F hiX6 tyX6 tyX6_ok nmX6 0 rfl rfl 4 (by decide) dX6_init_35 (List.mem_of_getElem? (i := 12) rfl) rfl hnm rfl rfl rfl rfl (Nat.le_of_ble_eq_true rfl) rfl rfl ?_
  refine jy_widen (cells' := 4) (slots' := 2304) (by decide) (by decide) ?_
  exact jy_vret F hr hlk () (trivial) [] rfl (by decide) dX6_init_38
def ws_c_X6_init_48 : List Cond := .code yX6_init cX6_init 3 none :: ([.methodLink "NestedChecker$Shelf" 3 ⟨"java/lang/Object", "<init>", "()V"⟩, .instanceMethod ⟨"java/lang/Object", "<init>", "()V"⟩, .code ⟨"java/lang/Object", "<init>", "()V"⟩ object_method_1_code 1 none, .methodLink "NestedChecker$Shelf" 9 ⟨"java/lang/Math", "max", "(II)I"⟩, .static ⟨"java/lang/Math", "max", "(II)I"⟩, .initialized "java/lang/Math", .code ⟨"java/lang/Math", "max", "(II)I"⟩ Lib.Math.max.code 2 (some .int), .arrayClass .int, .fieldLink "NestedChecker$Shelf" 15 "NestedChecker$Shelf" "items" "[I", .fieldLink "NestedChecker$Shelf" 21 "NestedChecker$Shelf" "length" "[I", .fieldLink "NestedChecker$Shelf" 24 "NestedChecker$Shelf" "code" "[I", .fieldLink "NestedChecker$Shelf" 27 "NestedChecker$Shelf" "mood" "[I"] ++ wsX60)
set_option maxHeartbeats 4000000 in
set_option maxRecDepth 100000 in
theorem c_X6_init_48 (l : Launch) (D : va_G) (k : jK) (h0 : Nat) (sz : Nat)  : Met l yX6_init ws_c_X6_init_48 ({ frames := 1, cells := 4, slots := 192, locals := 13 }) (jy_P [.ref h0, .int 48] D vwCl (jT k) jW [(h0, .inr (5, [.int 0, .null, .null, .null, .null]))] sz) (va_Qv (fun (u : Unit) => True) (jy_B D vwCl (va_A [(h0, .inr (5, [.int 0, .null, .null, .null, .null]))] sz) (fun (u : Unit) => [])) (va_A [(h0, .inr (5, [.int 0, .null, .null, .null, .null]))] sz)) 4 192 (va_A [(h0, .inr (5, [.int 0, .null, .null, .null, .null]))] sz) := by
  refine jy_met (cc := cX6_init) (maxL := 3) (ret := none) (lv := [(0, .ref h0), (1, .int 48)]) (by decide) rfl (Nat.le_of_ble_eq_true rfl) rfl ?_
  intro p e s m below meth c F hr hlk hnm hN hA
  have hiX6 : ∀ w ∈ u_ws RX6 TX6 5, w ∈ ws_c_X6_init_48 := fun w hw => List.mem_cons_of_mem _ (List.mem_append_right _ hw)
  refine jy_aload_n (pc' := 1) F 0 dX6_init_0 rfl rfl rfl ?_
  refine jy_objInit (pc' := 4) F dX6_init_1 (List.mem_of_getElem? (i := 1) rfl) (List.mem_of_getElem? (i := 2) rfl) (List.mem_of_getElem? (i := 3) rfl) (by decide) (Nat.le_of_ble_eq_true rfl) rfl ?_
  refine jy_iload_n (pc' := 5) F 1 dX6_init_4 rfl rfl rfl ?_
  refine jy_iconst (pc' := 6) (v := 1) F dX6_init_5 (by decide) rfl ?_
  refine jy_mmax (pc' := 9) (v := 48) F dX6_init_6 (List.mem_of_getElem? (i := 4) rfl) (List.mem_of_getElem? (i := 5) rfl) (List.mem_of_getElem? (i := 6) rfl) (List.mem_of_getElem? (i := 7) rfl) (by decide) (Nat.le_of_ble_eq_true rfl) (by decide) (by decide) (by decide) rfl ?_
  refine jy_istore_n (pc' := 10) (lv' := [(2, .int 48), (0, .ref h0), (1, .int 48)]) F dX6_init_9 rfl (by decide) rfl rfl ?_
  refine jy_aload_n (pc' := 11) F 1 dX6_init_10 rfl rfl rfl ?_
  refine jy_iload_n (pc' := 12) F 0 dX6_init_11 rfl rfl rfl ?_
  refine jy_newa (pc' := 14) (N' := 48) (a0 := (48, .inl (fun _ => 0))) (cells' := 1) (slots' := 48) (ws' := fun q1 => [(h0, .inr (5, [.int 0, .null, .null, .null, .null])), (q1, .inl (k.2.1, 48, .inl (fun _ => 0)))]) F hA 1 rfl rfl dX6_init_12 (List.mem_of_getElem? (i := 8) rfl) (fun _ => rfl) (by decide) (by decide) (by decide) rfl rfl (by decide) (by decide) (fun _ => rfl) rfl (fun q1 => ?_)
  refine jy_putF (pc' := 17) (C := RX6) (T := TX6) (N := 5) (ci := 5) (ws' := [(h0, .inr (5, [.int 0, .ref q1, .null, .null, .null])), (q1, .inl (k.2.1, 48, .inl (fun _ => 0)))]) F hiX6 tyX6 tyX6_ok nmX6 0 rfl rfl 1 (by decide) dX6_init_14 (List.mem_of_getElem? (i := 9) rfl) rfl hnm rfl rfl rfl rfl (Nat.le_of_ble_eq_true rfl) rfl rfl ?_
  refine jy_aload_n (pc' := 18) F 1 dX6_init_17 rfl rfl rfl ?_
  refine jy_iload_n (pc' := 19) F 0 dX6_init_18 rfl rfl rfl ?_
  refine jy_newa (pc' := 21) (N' := 48) (a0 := (48, .inl (fun _ => 0))) (cells' := 2) (slots' := 96) (ws' := fun q2 => [(h0, .inr (5, [.int 0, .ref q1, .null, .null, .null])), (q1, .inl (k.2.1, 48, .inl (fun _ => 0))), (q2, .inl (k.2.1, 48, .inl (fun _ => 0)))]) F hA 1 rfl rfl dX6_init_19 (List.mem_of_getElem? (i := 8) rfl) (fun _ => rfl) (by decide) (by decide) (by decide) rfl rfl (by decide) (by decide) (fun _ => rfl) rfl (fun q2 => ?_)
  refine jy_putF (pc' := 24) (C := RX6) (T := TX6) (N := 5) (ci := 5) (ws' := [(h0, .inr (5, [.int 0, .ref q1, .ref q2, .null, .null])), (q1, .inl (k.2.1, 48, .inl (fun _ => 0))), (q2, .inl (k.2.1, 48, .inl (fun _ => 0)))]) F hiX6 tyX6 tyX6_ok nmX6 0 rfl rfl 2 (by decide) dX6_init_21 (List.mem_of_getElem? (i := 10) rfl) rfl hnm rfl rfl rfl rfl (Nat.le_of_ble_eq_true rfl) rfl rfl ?_
  refine jy_aload_n (pc' := 25) F 1 dX6_init_24 rfl rfl rfl ?_
  refine jy_iload_n (pc' := 26) F 0 dX6_init_25 rfl rfl rfl ?_
  refine jy_newa (pc' := 28) (N' := 48) (a0 := (48, .inl (fun _ => 0))) (cells' := 3) (slots' := 144) (ws' := fun q3 => [(h0, .inr (5, [.int 0, .ref q1, .ref q2, .null, .null])), (q1, .inl (k.2.1, 48, .inl (fun _ => 0))), (q2, .inl (k.2.1, 48, .inl (fun _ => 0))), (q3, .inl (k.2.1, 48, .inl (fun _ => 0)))]) F hA 1 rfl rfl dX6_init_26 (List.mem_of_getElem? (i := 8) rfl) (fun _ => rfl) (by decide) (by decide) (by decide) rfl rfl (by decide) (by decide) (fun _ => rfl) rfl (fun q3 => ?_)
  refine jy_putF (pc' := 31) (C := RX6) (T := TX6) (N := 5) (ci := 5) (ws' := [(h0, .inr (5, [.int 0, .ref q1, .ref q2, .ref q3, .null])), (q1, .inl (k.2.1, 48, .inl (fun _ => 0))), (q2, .inl (k.2.1, 48, .inl (fun _ => 0))), (q3, .inl (k.2.1, 48, .inl (fun _ => 0)))]) F hiX6 tyX6 tyX6_ok nmX6 0 rfl rfl 3 (by decide) dX6_init_28 (List.mem_of_getElem? (i := 11) rfl) rfl hnm rfl rfl rfl rfl (Nat.le_of_ble_eq_true rfl) rfl rfl ?_
  refine jy_aload_n (pc' := 32) F 1 dX6_init_31 rfl rfl rfl ?_
  refine jy_iload_n (pc' := 33) F 0 dX6_init_32 rfl rfl rfl ?_
  refine jy_newa (pc' := 35) (N' := 48) (a0 := (48, .inl (fun _ => 0))) (cells' := 4) (slots' := 192) (ws' := fun q4 => [(h0, .inr (5, [.int 0, .ref q1, .ref q2, .ref q3, .null])), (q1, .inl (k.2.1, 48, .inl (fun _ => 0))), (q2, .inl (k.2.1, 48, .inl (fun _ => 0))), (q3, .inl (k.2.1, 48, .inl (fun _ => 0))), (q4, .inl (k.2.1, 48, .inl (fun _ => 0)))]) F hA 1 rfl rfl dX6_init_33 (List.mem_of_getElem? (i := 8) rfl) (fun _ => rfl) (by decide) (by decide) (by decide) rfl rfl (by decide) (by decide) (fun _ => rfl) rfl (fun q4 => ?_)
  refine jy_putF (pc' := 38) (C := RX6) (T := TX6) (N := 5) (ci := 5) (ws' := [(h0, .inr (5, [.int 0, .ref q1, .ref q2, .ref q3, .ref q4])), (q1, .inl (k.2.1, 48, .inl (fun _ => 0))), (q2, .inl (k.2.1, 48, .inl (fun _ => 0))), (q3, .inl (k.2.1, 48, .inl (fun _ => 0))), (q4, .inl (k.2.1, 48, .inl (fun _ => 0)))]) F hiX6 tyX6 tyX6_ok nmX6 0 rfl rfl 4 (by decide) dX6_init_35 (List.mem_of_getElem? (i := 12) rfl) rfl hnm rfl rfl rfl rfl (Nat.le_of_ble_eq_true rfl) rfl rfl ?_
  refine jy_widen (cells' := 4) (slots' := 192) (by decide) (by decide) ?_
  exact jy_vret F hr hlk () (trivial) [] rfl (by decide) dX6_init_38
abbrev cX7_init : ByteArray := prog_9_method_1_code
def yX7_init : MethodName := ⟨RX7, "<init>", "()V"⟩
theorem hdX7_init : yX7_init.cls ≠ "java/lang/invoke/MethodHandle" ∧ yX7_init.cls ≠ "java/lang/invoke/VarHandle" ∧ (parseMethodDescriptor yX7_init.desc).map (fun d => d.parameters.length) = some 0 := by decide +kernel
theorem dX7_init_0 : decode cX7_init 0 = .ok (.aload_n 0, 1) := by decide +kernel
theorem dX7_init_1 : decode cX7_init 1 = .ok (.invokespecial 3, 3) := by decide +kernel
theorem dX7_init_4 : decode cX7_init 4 = .ok (.aload_n 0, 1) := by decide +kernel
theorem dX7_init_5 : decode cX7_init 5 = .ok (.bipush 40, 2) := by decide +kernel
theorem dX7_init_7 : decode cX7_init 7 = .ok (.newarray .int, 2) := by decide +kernel
theorem dX7_init_9 : decode cX7_init 9 = .ok (.putfield 9, 3) := by decide +kernel
theorem dX7_init_12 : decode cX7_init 12 = .ok (.aload_n 0, 1) := by decide +kernel
theorem dX7_init_13 : decode cX7_init 13 = .ok (.bipush 40, 2) := by decide +kernel
theorem dX7_init_15 : decode cX7_init 15 = .ok (.newarray .int, 2) := by decide +kernel
theorem dX7_init_17 : decode cX7_init 17 = .ok (.putfield 15, 3) := by decide +kernel
theorem dX7_init_20 : decode cX7_init 20 = .ok (.aload_n 0, 1) := by decide +kernel
theorem dX7_init_21 : decode cX7_init 21 = .ok (.sipush 512, 3) := by decide +kernel
theorem dX7_init_24 : decode cX7_init 24 = .ok (.newarray .int, 2) := by decide +kernel
theorem dX7_init_26 : decode cX7_init 26 = .ok (.putfield 18, 3) := by decide +kernel
theorem dX7_init_29 : decode cX7_init 29 = .ok (.aload_n 0, 1) := by decide +kernel
theorem dX7_init_30 : decode cX7_init 30 = .ok (.sipush 160, 3) := by decide +kernel
theorem dX7_init_33 : decode cX7_init 33 = .ok (.newarray .int, 2) := by decide +kernel
theorem dX7_init_35 : decode cX7_init 35 = .ok (.putfield 21, 3) := by decide +kernel
theorem dX7_init_38 : decode cX7_init 38 = .ok (.return_, 1) := by decide +kernel
def ws_c_X7_init : List Cond := .code yX7_init cX7_init 1 none :: ([.methodLink "NestedChecker$SummaryTable" 3 ⟨"java/lang/Object", "<init>", "()V"⟩, .instanceMethod ⟨"java/lang/Object", "<init>", "()V"⟩, .code ⟨"java/lang/Object", "<init>", "()V"⟩ object_method_1_code 1 none, .arrayClass .int, .fieldLink "NestedChecker$SummaryTable" 9 "NestedChecker$SummaryTable" "states" "[I", .fieldLink "NestedChecker$SummaryTable" 15 "NestedChecker$SummaryTable" "pairs" "[I", .fieldLink "NestedChecker$SummaryTable" 18 "NestedChecker$SummaryTable" "present" "[I", .fieldLink "NestedChecker$SummaryTable" 21 "NestedChecker$SummaryTable" "overs" "[I"] ++ wsX70)
set_option maxHeartbeats 4000000 in
set_option maxRecDepth 100000 in
theorem c_X7_init (l : Launch) (D : va_G) (k : jK) (h0 : Nat) (sz : Nat)  : Met l yX7_init ws_c_X7_init ({ frames := 1, cells := 4, slots := 752, locals := 12 }) (jy_P [.ref h0] D vwCl (jT k) jW [(h0, .inr (6, [.int 0, .int 0, .null, .null, .null, .null]))] sz) (va_Qv (fun (u : Nat × Nat × Nat × Nat) => True) (jy_B D vwCl (va_A [(h0, .inr (6, [.int 0, .int 0, .null, .null, .null, .null]))] sz) (fun (u : Nat × Nat × Nat × Nat) => [(h0, .inr (6, [.int 0, .int 0, .ref u.1, .ref u.2.1, .ref u.2.2.1, .ref u.2.2.2]))])) (va_A [(h0, .inr (6, [.int 0, .int 0, .null, .null, .null, .null]))] sz)) 4 752 (va_A [(h0, .inr (6, [.int 0, .int 0, .null, .null, .null, .null]))] sz) := by
  refine jy_met (cc := cX7_init) (maxL := 1) (ret := none) (lv := [(0, .ref h0)]) (by decide) rfl (Nat.le_of_ble_eq_true rfl) rfl ?_
  intro p e s m below meth c F hr hlk hnm hN hA
  have hiX7 : ∀ w ∈ u_ws RX7 TX7 6, w ∈ ws_c_X7_init := fun w hw => List.mem_cons_of_mem _ (List.mem_append_right _ hw)
  refine jy_aload_n (pc' := 1) F 0 dX7_init_0 rfl rfl rfl ?_
  refine jy_objInit (pc' := 4) F dX7_init_1 (List.mem_of_getElem? (i := 1) rfl) (List.mem_of_getElem? (i := 2) rfl) (List.mem_of_getElem? (i := 3) rfl) (by decide) (Nat.le_of_ble_eq_true rfl) rfl ?_
  refine jy_aload_n (pc' := 5) F 0 dX7_init_4 rfl rfl rfl ?_
  refine jy_bipush (pc' := 7) (v := 40) F dX7_init_5 (by decide) rfl ?_
  refine jy_newa (pc' := 9) (N' := 40) (a0 := (40, .inl (fun _ => 0))) (cells' := 1) (slots' := 40) (ws' := fun q1 => [(h0, .inr (6, [.int 0, .int 0, .null, .null, .null, .null])), (q1, .inl (k.2.1, 40, .inl (fun _ => 0)))]) F hA 1 rfl rfl dX7_init_7 (List.mem_of_getElem? (i := 4) rfl) (fun _ => rfl) (by decide) (by decide) (by decide) rfl rfl (by decide) (by decide) (fun _ => rfl) rfl (fun q1 => ?_)
  refine jy_putF (pc' := 12) (C := RX7) (T := TX7) (N := 6) (ci := 6) (ws' := [(h0, .inr (6, [.int 0, .int 0, .ref q1, .null, .null, .null])), (q1, .inl (k.2.1, 40, .inl (fun _ => 0)))]) F hiX7 tyX7 tyX7_ok nmX7 0 rfl rfl 2 (by decide) dX7_init_9 (List.mem_of_getElem? (i := 5) rfl) rfl hnm rfl rfl rfl rfl (Nat.le_of_ble_eq_true rfl) rfl rfl ?_
  refine jy_aload_n (pc' := 13) F 0 dX7_init_12 rfl rfl rfl ?_
  refine jy_bipush (pc' := 15) (v := 40) F dX7_init_13 (by decide) rfl ?_
  refine jy_newa (pc' := 17) (N' := 40) (a0 := (40, .inl (fun _ => 0))) (cells' := 2) (slots' := 80) (ws' := fun q2 => [(h0, .inr (6, [.int 0, .int 0, .ref q1, .null, .null, .null])), (q1, .inl (k.2.1, 40, .inl (fun _ => 0))), (q2, .inl (k.2.1, 40, .inl (fun _ => 0)))]) F hA 1 rfl rfl dX7_init_15 (List.mem_of_getElem? (i := 4) rfl) (fun _ => rfl) (by decide) (by decide) (by decide) rfl rfl (by decide) (by decide) (fun _ => rfl) rfl (fun q2 => ?_)
  refine jy_putF (pc' := 20) (C := RX7) (T := TX7) (N := 6) (ci := 6) (ws' := [(h0, .inr (6, [.int 0, .int 0, .ref q1, .ref q2, .null, .null])), (q1, .inl (k.2.1, 40, .inl (fun _ => 0))), (q2, .inl (k.2.1, 40, .inl (fun _ => 0)))]) F hiX7 tyX7 tyX7_ok nmX7 0 rfl rfl 3 (by decide) dX7_init_17 (List.mem_of_getElem? (i := 6) rfl) rfl hnm rfl rfl rfl rfl (Nat.le_of_ble_eq_true rfl) rfl rfl ?_
  refine jy_aload_n (pc' := 21) F 0 dX7_init_20 rfl rfl rfl ?_
  refine jy_sipush (pc' := 24) (v := 512) F dX7_init_21 (by decide) rfl ?_
  refine jy_newa (pc' := 26) (N' := 512) (a0 := (512, .inl (fun _ => 0))) (cells' := 3) (slots' := 592) (ws' := fun q3 => [(h0, .inr (6, [.int 0, .int 0, .ref q1, .ref q2, .null, .null])), (q1, .inl (k.2.1, 40, .inl (fun _ => 0))), (q2, .inl (k.2.1, 40, .inl (fun _ => 0))), (q3, .inl (k.2.1, 512, .inl (fun _ => 0)))]) F hA 1 rfl rfl dX7_init_24 (List.mem_of_getElem? (i := 4) rfl) (fun _ => rfl) (by decide) (by decide) (by decide) rfl rfl (by decide) (by decide) (fun _ => rfl) rfl (fun q3 => ?_)
  refine jy_putF (pc' := 29) (C := RX7) (T := TX7) (N := 6) (ci := 6) (ws' := [(h0, .inr (6, [.int 0, .int 0, .ref q1, .ref q2, .ref q3, .null])), (q1, .inl (k.2.1, 40, .inl (fun _ => 0))), (q2, .inl (k.2.1, 40, .inl (fun _ => 0))), (q3, .inl (k.2.1, 512, .inl (fun _ => 0)))]) F hiX7 tyX7 tyX7_ok nmX7 0 rfl rfl 4 (by decide) dX7_init_26 (List.mem_of_getElem? (i := 7) rfl) rfl hnm rfl rfl rfl rfl (Nat.le_of_ble_eq_true rfl) rfl rfl ?_
  refine jy_aload_n (pc' := 30) F 0 dX7_init_29 rfl rfl rfl ?_
  refine jy_sipush (pc' := 33) (v := 160) F dX7_init_30 (by decide) rfl ?_
  refine jy_newa (pc' := 35) (N' := 160) (a0 := (160, .inl (fun _ => 0))) (cells' := 4) (slots' := 752) (ws' := fun q4 => [(h0, .inr (6, [.int 0, .int 0, .ref q1, .ref q2, .ref q3, .null])), (q1, .inl (k.2.1, 40, .inl (fun _ => 0))), (q2, .inl (k.2.1, 40, .inl (fun _ => 0))), (q3, .inl (k.2.1, 512, .inl (fun _ => 0))), (q4, .inl (k.2.1, 160, .inl (fun _ => 0)))]) F hA 1 rfl rfl dX7_init_33 (List.mem_of_getElem? (i := 4) rfl) (fun _ => rfl) (by decide) (by decide) (by decide) rfl rfl (by decide) (by decide) (fun _ => rfl) rfl (fun q4 => ?_)
  refine jy_putF (pc' := 38) (C := RX7) (T := TX7) (N := 6) (ci := 6) (ws' := [(h0, .inr (6, [.int 0, .int 0, .ref q1, .ref q2, .ref q3, .ref q4])), (q1, .inl (k.2.1, 40, .inl (fun _ => 0))), (q2, .inl (k.2.1, 40, .inl (fun _ => 0))), (q3, .inl (k.2.1, 512, .inl (fun _ => 0))), (q4, .inl (k.2.1, 160, .inl (fun _ => 0)))]) F hiX7 tyX7 tyX7_ok nmX7 0 rfl rfl 5 (by decide) dX7_init_35 (List.mem_of_getElem? (i := 8) rfl) rfl hnm rfl rfl rfl rfl (Nat.le_of_ble_eq_true rfl) rfl rfl ?_
  refine jy_widen (cells' := 4) (slots' := 752) (by decide) (by decide) ?_
  exact jy_vret F hr hlk (q1, q2, q3, q4) (trivial) [0] rfl (by decide) dX7_init_38
