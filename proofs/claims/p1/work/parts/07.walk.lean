abbrev cX11_refuse : ByteArray := prog_1_method_53_code
def yX11_refuse : MethodName := ⟨RX11, "refuse", "(I)I"⟩
theorem hdX11_refuse : yX11_refuse.cls ≠ "java/lang/invoke/MethodHandle" ∧ yX11_refuse.cls ≠ "java/lang/invoke/VarHandle" ∧ (parseMethodDescriptor yX11_refuse.desc).map (fun d => d.parameters.length) = some 1 := by decide +kernel
theorem dX11_refuse_0 : decode cX11_refuse 0 = .ok (.aload_n 0, 1) := by decide +kernel
theorem dX11_refuse_1 : decode cX11_refuse 1 = .ok (.iload_n 1, 1) := by decide +kernel
theorem dX11_refuse_2 : decode cX11_refuse 2 = .ok (.putfield 72, 3) := by decide +kernel
theorem dX11_refuse_5 : decode cX11_refuse 5 = .ok (.iconst (-1), 1) := by decide +kernel
theorem dX11_refuse_6 : decode cX11_refuse 6 = .ok (.ireturn, 1) := by decide +kernel
def ws_c_X11_refuse : List Cond := .code yX11_refuse cX11_refuse 2 (some .int) :: ([.fieldLink "NestedChecker" 72 "NestedChecker" "lastStatus" "I"] ++ wsX110)
set_option maxHeartbeats 4000000 in
set_option maxRecDepth 100000 in
theorem c_X11_refuse (l : Launch) (D : va_G) (k : jK) (h0 : Nat) (x0 : Int32) (w1 : Value) (w2 : Value) (w3 : Value) (w4 : Value) (w5 : Value) (w6 : Value) (w7 : Value) (w8 : Value) (w9 : Value) (w10 : Value) (w11 : Value) (w12 : Value) (w13 : Value) (w14 : Value) (y : Int32) (sz : Nat)  : Met l yX11_refuse ws_c_X11_refuse ({ frames := 0, cells := 0, slots := 0, locals := 0 }) (jy_P [.ref h0, .int y] D vwCl (jT k) jW [(h0, .inr (10, [.int x0, w1, w2, w3, w4, w5, w6, w7, w8, w9, w10, w11, w12, w13, w14]))] sz) (va_Qi (fun (r : Int32) (u : Unit) => r = (-1)) (jy_B D vwCl (va_A [(h0, .inr (10, [.int x0, w1, w2, w3, w4, w5, w6, w7, w8, w9, w10, w11, w12, w13, w14]))] sz) (fun (u : Unit) => [(h0, .inr (10, [.int y, w1, w2, w3, w4, w5, w6, w7, w8, w9, w10, w11, w12, w13, w14]))])) (va_A [(h0, .inr (10, [.int x0, w1, w2, w3, w4, w5, w6, w7, w8, w9, w10, w11, w12, w13, w14]))] sz)) 0 0 (va_A [(h0, .inr (10, [.int x0, w1, w2, w3, w4, w5, w6, w7, w8, w9, w10, w11, w12, w13, w14]))] sz) := by
  refine jy_met (cc := cX11_refuse) (maxL := 2) (ret := (some .int)) (lv := [(0, .ref h0), (1, .int y)]) (by decide) rfl (Nat.le_of_ble_eq_true rfl) rfl ?_
  intro p e s m below meth c F hr hlk hnm hN hA
  have hiX11 : ∀ w ∈ u_ws RX11 TX11 15, w ∈ ws_c_X11_refuse := fun w hw => List.mem_cons_of_mem _ (List.mem_append_right _ hw)
  refine jy_aload_n (pc' := 1) F 0 dX11_refuse_0 rfl rfl rfl ?_
  refine jy_iload_n (pc' := 2) F 1 dX11_refuse_1 rfl rfl rfl ?_
  refine jy_put (pc' := 5) (C := RX11) (T := TX11) (N := 15) (ci := 10) (ws' := [(h0, .inr (10, [.int y, w1, w2, w3, w4, w5, w6, w7, w8, w9, w10, w11, w12, w13, w14]))]) F hiX11 tyX11 tyX11_ok nmX11 0 rfl rfl 0 (by decide) dX11_refuse_2 (List.mem_of_getElem? (i := 1) rfl) rfl rfl rfl rfl (Nat.le_of_ble_eq_true rfl) rfl rfl ?_
  refine jy_iconst (pc' := 6) (v := (-1)) F dX11_refuse_5 (by decide) rfl ?_
  refine jy_widen (cells' := 0) (slots' := 0) (by decide) (by decide) ?_
  exact jy_iret (v := (-1)) F hr hlk () (rfl) [0] rfl (by decide) dX11_refuse_6
abbrev cX11_answer : ByteArray := prog_1_method_52_code
def yX11_answer : MethodName := ⟨RX11, "answer", "(I)I"⟩
theorem hdX11_answer : yX11_answer.cls ≠ "java/lang/invoke/MethodHandle" ∧ yX11_answer.cls ≠ "java/lang/invoke/VarHandle" ∧ (parseMethodDescriptor yX11_answer.desc).map (fun d => d.parameters.length) = some 1 := by decide +kernel
theorem dX11_answer_0 : decode cX11_answer 0 = .ok (.aload_n 0, 1) := by decide +kernel
theorem dX11_answer_1 : decode cX11_answer 1 = .ok (.iconst 0, 1) := by decide +kernel
theorem dX11_answer_2 : decode cX11_answer 2 = .ok (.putfield 72, 3) := by decide +kernel
theorem dX11_answer_5 : decode cX11_answer 5 = .ok (.iload_n 1, 1) := by decide +kernel
theorem dX11_answer_6 : decode cX11_answer 6 = .ok (.ireturn, 1) := by decide +kernel
def ws_c_X11_answer : List Cond := .code yX11_answer cX11_answer 2 (some .int) :: ([.fieldLink "NestedChecker" 72 "NestedChecker" "lastStatus" "I"] ++ wsX110)
set_option maxHeartbeats 4000000 in
set_option maxRecDepth 100000 in
theorem c_X11_answer (l : Launch) (D : va_G) (k : jK) (h0 : Nat) (x0 : Int32) (w1 : Value) (w2 : Value) (w3 : Value) (w4 : Value) (w5 : Value) (w6 : Value) (w7 : Value) (w8 : Value) (w9 : Value) (w10 : Value) (w11 : Value) (w12 : Value) (w13 : Value) (w14 : Value) (y : Int32) (sz : Nat)  : Met l yX11_answer ws_c_X11_answer ({ frames := 0, cells := 0, slots := 0, locals := 0 }) (jy_P [.ref h0, .int y] D vwCl (jT k) jW [(h0, .inr (10, [.int x0, w1, w2, w3, w4, w5, w6, w7, w8, w9, w10, w11, w12, w13, w14]))] sz) (va_Qi (fun (r : Int32) (u : Unit) => r = y) (jy_B D vwCl (va_A [(h0, .inr (10, [.int x0, w1, w2, w3, w4, w5, w6, w7, w8, w9, w10, w11, w12, w13, w14]))] sz) (fun (u : Unit) => [(h0, .inr (10, [.int 0, w1, w2, w3, w4, w5, w6, w7, w8, w9, w10, w11, w12, w13, w14]))])) (va_A [(h0, .inr (10, [.int x0, w1, w2, w3, w4, w5, w6, w7, w8, w9, w10, w11, w12, w13, w14]))] sz)) 0 0 (va_A [(h0, .inr (10, [.int x0, w1, w2, w3, w4, w5, w6, w7, w8, w9, w10, w11, w12, w13, w14]))] sz) := by
  refine jy_met (cc := cX11_answer) (maxL := 2) (ret := (some .int)) (lv := [(0, .ref h0), (1, .int y)]) (by decide) rfl (Nat.le_of_ble_eq_true rfl) rfl ?_
  intro p e s m below meth c F hr hlk hnm hN hA
  have hiX11 : ∀ w ∈ u_ws RX11 TX11 15, w ∈ ws_c_X11_answer := fun w hw => List.mem_cons_of_mem _ (List.mem_append_right _ hw)
  refine jy_aload_n (pc' := 1) F 0 dX11_answer_0 rfl rfl rfl ?_
  refine jy_iconst (pc' := 2) (v := 0) F dX11_answer_1 (by decide) rfl ?_
  refine jy_put (pc' := 5) (C := RX11) (T := TX11) (N := 15) (ci := 10) (ws' := [(h0, .inr (10, [.int 0, w1, w2, w3, w4, w5, w6, w7, w8, w9, w10, w11, w12, w13, w14]))]) F hiX11 tyX11 tyX11_ok nmX11 0 rfl rfl 0 (by decide) dX11_answer_2 (List.mem_of_getElem? (i := 1) rfl) rfl rfl rfl rfl (Nat.le_of_ble_eq_true rfl) rfl rfl ?_
  refine jy_iload_n (pc' := 6) F 1 dX11_answer_5 rfl rfl rfl ?_
  refine jy_widen (cells' := 0) (slots' := 0) (by decide) (by decide) ?_
  exact jy_iret (v := y) F hr hlk () (rfl) [0] rfl (by decide) dX11_answer_6
abbrev cX11_deny : ByteArray := prog_1_method_55_code
def yX11_deny : MethodName := ⟨RX11, "deny", "(I)Z"⟩
theorem hdX11_deny : yX11_deny.cls ≠ "java/lang/invoke/MethodHandle" ∧ yX11_deny.cls ≠ "java/lang/invoke/VarHandle" ∧ (parseMethodDescriptor yX11_deny.desc).map (fun d => d.parameters.length) = some 1 := by decide +kernel
theorem dX11_deny_0 : decode cX11_deny 0 = .ok (.aload_n 0, 1) := by decide +kernel
theorem dX11_deny_1 : decode cX11_deny 1 = .ok (.iload_n 1, 1) := by decide +kernel
theorem dX11_deny_2 : decode cX11_deny 2 = .ok (.putfield 72, 3) := by decide +kernel
theorem dX11_deny_5 : decode cX11_deny 5 = .ok (.iconst 0, 1) := by decide +kernel
theorem dX11_deny_6 : decode cX11_deny 6 = .ok (.ireturn, 1) := by decide +kernel
def ws_c_X11_deny : List Cond := .code yX11_deny cX11_deny 2 (some .boolean) :: ([.fieldLink "NestedChecker" 72 "NestedChecker" "lastStatus" "I"] ++ wsX110)
set_option maxHeartbeats 4000000 in
set_option maxRecDepth 100000 in
theorem c_X11_deny (l : Launch) (D : va_G) (k : jK) (h0 : Nat) (x0 : Int32) (w1 : Value) (w2 : Value) (w3 : Value) (w4 : Value) (w5 : Value) (w6 : Value) (w7 : Value) (w8 : Value) (w9 : Value) (w10 : Value) (w11 : Value) (w12 : Value) (w13 : Value) (w14 : Value) (y : Int32) (sz : Nat)  : Met l yX11_deny ws_c_X11_deny ({ frames := 0, cells := 0, slots := 0, locals := 0 }) (jy_P [.ref h0, .int y] D vwCl (jT k) jW [(h0, .inr (10, [.int x0, w1, w2, w3, w4, w5, w6, w7, w8, w9, w10, w11, w12, w13, w14]))] sz) (va_Qi (fun (r : Int32) (u : Unit) => r = 0) (jy_B D vwCl (va_A [(h0, .inr (10, [.int x0, w1, w2, w3, w4, w5, w6, w7, w8, w9, w10, w11, w12, w13, w14]))] sz) (fun (u : Unit) => [(h0, .inr (10, [.int y, w1, w2, w3, w4, w5, w6, w7, w8, w9, w10, w11, w12, w13, w14]))])) (va_A [(h0, .inr (10, [.int x0, w1, w2, w3, w4, w5, w6, w7, w8, w9, w10, w11, w12, w13, w14]))] sz)) 0 0 (va_A [(h0, .inr (10, [.int x0, w1, w2, w3, w4, w5, w6, w7, w8, w9, w10, w11, w12, w13, w14]))] sz) := by
  refine jy_met (cc := cX11_deny) (maxL := 2) (ret := (some .boolean)) (lv := [(0, .ref h0), (1, .int y)]) (by decide) rfl (Nat.le_of_ble_eq_true rfl) rfl ?_
  intro p e s m below meth c F hr hlk hnm hN hA
  have hiX11 : ∀ w ∈ u_ws RX11 TX11 15, w ∈ ws_c_X11_deny := fun w hw => List.mem_cons_of_mem _ (List.mem_append_right _ hw)
  refine jy_aload_n (pc' := 1) F 0 dX11_deny_0 rfl rfl rfl ?_
  refine jy_iload_n (pc' := 2) F 1 dX11_deny_1 rfl rfl rfl ?_
  refine jy_put (pc' := 5) (C := RX11) (T := TX11) (N := 15) (ci := 10) (ws' := [(h0, .inr (10, [.int y, w1, w2, w3, w4, w5, w6, w7, w8, w9, w10, w11, w12, w13, w14]))]) F hiX11 tyX11 tyX11_ok nmX11 0 rfl rfl 0 (by decide) dX11_deny_2 (List.mem_of_getElem? (i := 1) rfl) rfl rfl rfl rfl (Nat.le_of_ble_eq_true rfl) rfl rfl ?_
  refine jy_iconst (pc' := 6) (v := 0) F dX11_deny_5 (by decide) rfl ?_
  refine jy_widen (cells' := 0) (slots' := 0) (by decide) (by decide) ?_
  exact jy_zret (v := 0) F hr hlk (by first | rfl | decide) () (rfl) [0] rfl (by decide) dX11_deny_6
abbrev cX11_agree : ByteArray := prog_1_method_54_code
def yX11_agree : MethodName := ⟨RX11, "agree", "()Z"⟩
theorem hdX11_agree : yX11_agree.cls ≠ "java/lang/invoke/MethodHandle" ∧ yX11_agree.cls ≠ "java/lang/invoke/VarHandle" ∧ (parseMethodDescriptor yX11_agree.desc).map (fun d => d.parameters.length) = some 0 := by decide +kernel
theorem dX11_agree_0 : decode cX11_agree 0 = .ok (.aload_n 0, 1) := by decide +kernel
theorem dX11_agree_1 : decode cX11_agree 1 = .ok (.iconst 0, 1) := by decide +kernel
theorem dX11_agree_2 : decode cX11_agree 2 = .ok (.putfield 72, 3) := by decide +kernel
theorem dX11_agree_5 : decode cX11_agree 5 = .ok (.iconst 1, 1) := by decide +kernel
theorem dX11_agree_6 : decode cX11_agree 6 = .ok (.ireturn, 1) := by decide +kernel
def ws_c_X11_agree : List Cond := .code yX11_agree cX11_agree 1 (some .boolean) :: ([.fieldLink "NestedChecker" 72 "NestedChecker" "lastStatus" "I"] ++ wsX110)
set_option maxHeartbeats 4000000 in
set_option maxRecDepth 100000 in
theorem c_X11_agree (l : Launch) (D : va_G) (k : jK) (h0 : Nat) (x0 : Int32) (w1 : Value) (w2 : Value) (w3 : Value) (w4 : Value) (w5 : Value) (w6 : Value) (w7 : Value) (w8 : Value) (w9 : Value) (w10 : Value) (w11 : Value) (w12 : Value) (w13 : Value) (w14 : Value) (sz : Nat)  : Met l yX11_agree ws_c_X11_agree ({ frames := 0, cells := 0, slots := 0, locals := 0 }) (jy_P [.ref h0] D vwCl (jT k) jW [(h0, .inr (10, [.int x0, w1, w2, w3, w4, w5, w6, w7, w8, w9, w10, w11, w12, w13, w14]))] sz) (va_Qi (fun (r : Int32) (u : Unit) => r = 1) (jy_B D vwCl (va_A [(h0, .inr (10, [.int x0, w1, w2, w3, w4, w5, w6, w7, w8, w9, w10, w11, w12, w13, w14]))] sz) (fun (u : Unit) => [(h0, .inr (10, [.int 0, w1, w2, w3, w4, w5, w6, w7, w8, w9, w10, w11, w12, w13, w14]))])) (va_A [(h0, .inr (10, [.int x0, w1, w2, w3, w4, w5, w6, w7, w8, w9, w10, w11, w12, w13, w14]))] sz)) 0 0 (va_A [(h0, .inr (10, [.int x0, w1, w2, w3, w4, w5, w6, w7, w8, w9, w10, w11, w12, w13, w14]))] sz) := by
  refine jy_met (cc := cX11_agree) (maxL := 1) (ret := (some .boolean)) (lv := [(0, .ref h0)]) (by decide) rfl (Nat.le_of_ble_eq_true rfl) rfl ?_
  intro p e s m below meth c F hr hlk hnm hN hA
  have hiX11 : ∀ w ∈ u_ws RX11 TX11 15, w ∈ ws_c_X11_agree := fun w hw => List.mem_cons_of_mem _ (List.mem_append_right _ hw)
  refine jy_aload_n (pc' := 1) F 0 dX11_agree_0 rfl rfl rfl ?_
  refine jy_iconst (pc' := 2) (v := 0) F dX11_agree_1 (by decide) rfl ?_
  refine jy_put (pc' := 5) (C := RX11) (T := TX11) (N := 15) (ci := 10) (ws' := [(h0, .inr (10, [.int 0, w1, w2, w3, w4, w5, w6, w7, w8, w9, w10, w11, w12, w13, w14]))]) F hiX11 tyX11 tyX11_ok nmX11 0 rfl rfl 0 (by decide) dX11_agree_2 (List.mem_of_getElem? (i := 1) rfl) rfl rfl rfl rfl (Nat.le_of_ble_eq_true rfl) rfl rfl ?_
  refine jy_iconst (pc' := 6) (v := 1) F dX11_agree_5 (by decide) rfl ?_
  refine jy_widen (cells' := 0) (slots' := 0) (by decide) (by decide) ?_
  exact jy_zret (v := 1) F hr hlk (by first | rfl | decide) () (rfl) [0] rfl (by decide) dX11_agree_6
abbrev cX5_has : ByteArray := prog_7_method_4_code
def yX5_has : MethodName := ⟨RX5, "has", "(I)Z"⟩
theorem hdX5_has : yX5_has.cls ≠ "java/lang/invoke/MethodHandle" ∧ yX5_has.cls ≠ "java/lang/invoke/VarHandle" ∧ (parseMethodDescriptor yX5_has.desc).map (fun d => d.parameters.length) = some 1 := by decide +kernel
theorem dX5_has_0 : decode cX5_has 0 = .ok (.iload_n 1, 1) := by decide +kernel
theorem dX5_has_1 : decode cX5_has 1 = .ok (.ifCond .lt 15, 3) := by decide +kernel
theorem dX5_has_4 : decode cX5_has 4 = .ok (.iload_n 1, 1) := by decide +kernel
theorem dX5_has_5 : decode cX5_has 5 = .ok (.aload_n 0, 1) := by decide +kernel
theorem dX5_has_6 : decode cX5_has 6 = .ok (.getfield 38, 3) := by decide +kernel
theorem dX5_has_9 : decode cX5_has 9 = .ok (.if_icmp .ge 7, 3) := by decide +kernel
theorem dX5_has_16 : decode cX5_has 16 = .ok (.iconst 0, 1) := by decide +kernel
theorem dX5_has_17 : decode cX5_has 17 = .ok (.ireturn, 1) := by decide +kernel
def ws_c_X5_has : List Cond := .code yX5_has cX5_has 2 (some .boolean) :: ([.fieldLink "NestedChecker$Setting" 38 "NestedChecker$Setting" "automata" "I"] ++ wsX50)
set_option maxHeartbeats 4000000 in
set_option maxRecDepth 100000 in
theorem c_X5_has (l : Launch) (D : va_G) (k : jK) (s0 : Nat) (s1 : Nat) (s2 : Nat) (s3 : Nat) (y : Int32) (sz : Nat)  : Met l yX5_has ws_c_X5_has ({ frames := 0, cells := 0, slots := 0, locals := 0 }) (jy_P [.ref s0, .int y] D vwCl (jT k) jW [(s0, .inr (4, [.int 0, .int 0, .int 0, .int 0, .ref s1, .ref s2, .ref s3]))] sz) (vp_Si (fun (r : Int32) => r = 0)) 0 0 (fun _ => False) := by
  refine jy_metS (cc := cX5_has) (maxL := 2) (ret := (some .boolean)) (lv := [(0, .ref s0), (1, .int y)]) (by decide) rfl (Nat.le_of_ble_eq_true rfl) rfl ?_
  intro p e s m below meth c F hr hlk hN
  have hiX5 : ∀ w ∈ u_ws RX5 TX5 7, w ∈ ws_c_X5_has := fun w hw => List.mem_cons_of_mem _ (List.mem_append_right _ hw)
  refine jy_iload_n (pc' := 1) F 1 dX5_has_0 rfl rfl rfl ?_
  refine jy_if_lt (pc' := 4) (tgt := 16) F dX5_has_1 (by decide) rfl (fun h_1 => ?_) (fun h_1 => ?_)
  · refine jy_iconst (pc' := 17) (v := 0) F dX5_has_16 (by decide) rfl ?_
    exact jy_zretS (v := 0) F hr hlk (by first | rfl | decide) (rfl) dX5_has_17
  · refine jy_iload_n (pc' := 5) F 1 dX5_has_4 rfl rfl rfl ?_
    refine jy_aload_n (pc' := 6) F 0 dX5_has_5 rfl rfl rfl ?_
    refine jy_get (pc' := 9) (C := RX5) (T := TX5) (N := 7) (ci := 4) (v := .int 0) F hiX5 0 rfl rfl 3 (by decide) dX5_has_6 (List.mem_of_getElem? (i := 1) rfl) rfl rfl ?_
    refine jy_icmp_ge (pc' := 12) (tgt := 16) F dX5_has_9 (by decide) rfl (fun _ => ?_) (fun h => absurd (Int32.not_lt.mp h_1) h)
    refine jy_iconst (pc' := 17) (v := 0) F dX5_has_16 (by decide) rfl ?_
    exact jy_zretS (v := 0) F hr hlk (by first | rfl | decide) (rfl) dX5_has_17
abbrev cX5_hasLetter : ByteArray := prog_7_method_6_code
def yX5_hasLetter : MethodName := ⟨RX5, "hasLetter", "(I)Z"⟩
theorem hdX5_hasLetter : yX5_hasLetter.cls ≠ "java/lang/invoke/MethodHandle" ∧ yX5_hasLetter.cls ≠ "java/lang/invoke/VarHandle" ∧ (parseMethodDescriptor yX5_hasLetter.desc).map (fun d => d.parameters.length) = some 1 := by decide +kernel
theorem dX5_hasLetter_0 : decode cX5_hasLetter 0 = .ok (.iload_n 1, 1) := by decide +kernel
theorem dX5_hasLetter_1 : decode cX5_hasLetter 1 = .ok (.ifCond .lt 15, 3) := by decide +kernel
theorem dX5_hasLetter_4 : decode cX5_hasLetter 4 = .ok (.iload_n 1, 1) := by decide +kernel
theorem dX5_hasLetter_5 : decode cX5_hasLetter 5 = .ok (.aload_n 0, 1) := by decide +kernel
theorem dX5_hasLetter_6 : decode cX5_hasLetter 6 = .ok (.getfield 35, 3) := by decide +kernel
theorem dX5_hasLetter_9 : decode cX5_hasLetter 9 = .ok (.if_icmp .ge 7, 3) := by decide +kernel
theorem dX5_hasLetter_16 : decode cX5_hasLetter 16 = .ok (.iconst 0, 1) := by decide +kernel
theorem dX5_hasLetter_17 : decode cX5_hasLetter 17 = .ok (.ireturn, 1) := by decide +kernel
def ws_c_X5_hasLetter : List Cond := .code yX5_hasLetter cX5_hasLetter 2 (some .boolean) :: ([.fieldLink "NestedChecker$Setting" 35 "NestedChecker$Setting" "letters" "I"] ++ wsX50)
set_option maxHeartbeats 4000000 in
set_option maxRecDepth 100000 in
theorem c_X5_hasLetter (l : Launch) (D : va_G) (k : jK) (s0 : Nat) (s1 : Nat) (s2 : Nat) (s3 : Nat) (y : Int32) (sz : Nat)  : Met l yX5_hasLetter ws_c_X5_hasLetter ({ frames := 0, cells := 0, slots := 0, locals := 0 }) (jy_P [.ref s0, .int y] D vwCl (jT k) jW [(s0, .inr (4, [.int 0, .int 0, .int 0, .int 0, .ref s1, .ref s2, .ref s3]))] sz) (vp_Si (fun (r : Int32) => r = 0)) 0 0 (fun _ => False) := by
  refine jy_metS (cc := cX5_hasLetter) (maxL := 2) (ret := (some .boolean)) (lv := [(0, .ref s0), (1, .int y)]) (by decide) rfl (Nat.le_of_ble_eq_true rfl) rfl ?_
  intro p e s m below meth c F hr hlk hN
  have hiX5 : ∀ w ∈ u_ws RX5 TX5 7, w ∈ ws_c_X5_hasLetter := fun w hw => List.mem_cons_of_mem _ (List.mem_append_right _ hw)
  refine jy_iload_n (pc' := 1) F 1 dX5_hasLetter_0 rfl rfl rfl ?_
  refine jy_if_lt (pc' := 4) (tgt := 16) F dX5_hasLetter_1 (by decide) rfl (fun h_1 => ?_) (fun h_1 => ?_)
  · refine jy_iconst (pc' := 17) (v := 0) F dX5_hasLetter_16 (by decide) rfl ?_
    exact jy_zretS (v := 0) F hr hlk (by first | rfl | decide) (rfl) dX5_hasLetter_17
  · refine jy_iload_n (pc' := 5) F 1 dX5_hasLetter_4 rfl rfl rfl ?_
    refine jy_aload_n (pc' := 6) F 0 dX5_hasLetter_5 rfl rfl rfl ?_
    refine jy_get (pc' := 9) (C := RX5) (T := TX5) (N := 7) (ci := 4) (v := .int 0) F hiX5 0 rfl rfl 2 (by decide) dX5_hasLetter_6 (List.mem_of_getElem? (i := 1) rfl) rfl rfl ?_
    refine jy_icmp_ge (pc' := 12) (tgt := 16) F dX5_hasLetter_9 (by decide) rfl (fun _ => ?_) (fun h => absurd (Int32.not_lt.mp h_1) h)
    refine jy_iconst (pc' := 17) (v := 0) F dX5_hasLetter_16 (by decide) rfl ?_
    exact jy_zretS (v := 0) F hr hlk (by first | rfl | decide) (rfl) dX5_hasLetter_17
abbrev cX5_sortOf : ByteArray := prog_7_method_7_code
def yX5_sortOf : MethodName := ⟨RX5, "sortOf", "(I)I"⟩
theorem hdX5_sortOf : yX5_sortOf.cls ≠ "java/lang/invoke/MethodHandle" ∧ yX5_sortOf.cls ≠ "java/lang/invoke/VarHandle" ∧ (parseMethodDescriptor yX5_sortOf.desc).map (fun d => d.parameters.length) = some 1 := by decide +kernel
theorem dX5_sortOf_0 : decode cX5_sortOf 0 = .ok (.aload_n 0, 1) := by decide +kernel
theorem dX5_sortOf_1 : decode cX5_sortOf 1 = .ok (.iload_n 1, 1) := by decide +kernel
theorem dX5_sortOf_2 : decode cX5_sortOf 2 = .ok (.invokevirtual 51, 3) := by decide +kernel
theorem dX5_sortOf_5 : decode cX5_sortOf 5 = .ok (.ifCond .ne 5, 3) := by decide +kernel
theorem dX5_sortOf_8 : decode cX5_sortOf 8 = .ok (.iconst (-1), 1) := by decide +kernel
theorem dX5_sortOf_9 : decode cX5_sortOf 9 = .ok (.ireturn, 1) := by decide +kernel
def ws_c_X5_sortOf : List Cond := .code yX5_sortOf cX5_sortOf 2 (some .int) :: ([.code ⟨"NestedChecker$Setting", "hasLetter", "(I)Z"⟩ cX5_hasLetter 2 (some .boolean), .fieldLink "NestedChecker$Setting" 35 "NestedChecker$Setting" "letters" "I", .initialized "NestedChecker$Setting", .instanceMethod ⟨"NestedChecker$Setting", "hasLetter", "(I)Z"⟩, .selects "NestedChecker$Setting" ⟨"NestedChecker$Setting", "hasLetter", "(I)Z"⟩ ⟨"NestedChecker$Setting", "hasLetter", "(I)Z"⟩, .methodLink "NestedChecker$Setting" 51 ⟨"NestedChecker$Setting", "hasLetter", "(I)Z"⟩] ++ wsX50)
set_option maxRecDepth 20000 in
theorem g_c_X5_sortOf_c_X5_hasLetter : GoodIn ws_c_X5_sortOf ws_c_X5_hasLetter := goodIn_r _ [1, 2, 7, 8, 9, 10, 11, 12, 13] (by decide +kernel) (by decide +kernel)
set_option maxHeartbeats 4000000 in
set_option maxRecDepth 100000 in
theorem c_X5_sortOf (l : Launch) (D : va_G) (k : jK) (s0 : Nat) (s1 : Nat) (s2 : Nat) (s3 : Nat) (y : Int32) (sz : Nat)  : Met l yX5_sortOf ws_c_X5_sortOf ({ frames := 1, cells := 0, slots := 0, locals := 21 }) (jy_P [.ref s0, .int y] D vwCl (jT k) jW [(s0, .inr (4, [.int 0, .int 0, .int 0, .int 0, .ref s1, .ref s2, .ref s3]))] sz) (vp_Si (fun (r : Int32) => r = -1)) 0 0 (fun _ => False) := by
  refine jy_metS (cc := cX5_sortOf) (maxL := 2) (ret := (some .int)) (lv := [(0, .ref s0), (1, .int y)]) (by decide) rfl (Nat.le_of_ble_eq_true rfl) rfl ?_
  intro p e s m below meth c F hr hlk hN
  have hiX5 : ∀ w ∈ u_ws RX5 TX5 7, w ∈ ws_c_X5_sortOf := fun w hw => List.mem_cons_of_mem _ (List.mem_append_right _ hw)
  refine jy_aload_n (pc' := 1) F 0 dX5_sortOf_0 rfl rfl rfl ?_
  refine jy_iload_n (pc' := 2) F 1 dX5_sortOf_1 rfl rfl rfl ?_
  refine jy_callSi (pc' := 5) (jy_runV (As := [.int y]) (b := s0) (q0 := 0) (ci := 4) (C := RX5) (T := TX5) (N := 7) (st := []) F hN (fun sz => c_X5_hasLetter l D k s0 s1 s2 s3 y sz ) (jy_cV F g_c_X5_sortOf_c_X5_hasLetter rfl hdX5_hasLetter (List.mem_of_getElem? (i := 3) rfl) (List.mem_of_getElem? (i := 6) rfl) (List.mem_of_getElem? (i := 4) rfl) (List.mem_of_getElem? (i := 5) rfl) rfl rfl ⟨by decide, by decide⟩) rfl rfl [0] rfl (by decide) rfl rfl (Nat.le_of_ble_eq_true rfl) dX5_sortOf_2 ⟨by decide, by decide⟩) rfl (fun r_1 e_2 => ?_)
  subst e_2
  refine jy_if_ne (pc' := 8) (tgt := 10) F dX5_sortOf_5 (by decide) rfl (fun h => absurd h (by decide)) (fun _ => ?_)
  refine jy_iconst (pc' := 9) (v := (-1)) F dX5_sortOf_8 (by decide) rfl ?_
  exact jy_iretS (v := (-1)) F hr hlk (rfl) dX5_sortOf_9
abbrev cX9_has : ByteArray := prog_11_method_2_code
def yX9_has : MethodName := ⟨RX9, "has", "(I)Z"⟩
theorem hdX9_has : yX9_has.cls ≠ "java/lang/invoke/MethodHandle" ∧ yX9_has.cls ≠ "java/lang/invoke/VarHandle" ∧ (parseMethodDescriptor yX9_has.desc).map (fun d => d.parameters.length) = some 1 := by decide +kernel
theorem dX9_has_0 : decode cX9_has 0 = .ok (.iload_n 1, 1) := by decide +kernel
theorem dX9_has_1 : decode cX9_has 1 = .ok (.iconst 0, 1) := by decide +kernel
theorem dX9_has_2 : decode cX9_has 2 = .ok (.iconst 3, 1) := by decide +kernel
theorem dX9_has_3 : decode cX9_has 3 = .ok (.invokestatic 22, 3) := by decide +kernel
theorem dX9_has_6 : decode cX9_has 6 = .ok (.ireturn, 1) := by decide +kernel
def ws_c_X9_has : List Cond := .code yX9_has cX9_has 2 (some .boolean) :: ([.code ⟨"NestedChecker", "within", "(III)Z"⟩ cX11_within 3 (some .boolean), .initialized "NestedChecker", .static ⟨"NestedChecker", "within", "(III)Z"⟩])
set_option maxRecDepth 20000 in
theorem g_c_X9_has_c_X11_within : GoodIn ws_c_X9_has ws_c_X11_within := goodIn_r _ [1] (by decide +kernel) (by decide +kernel)
set_option maxHeartbeats 4000000 in
set_option maxRecDepth 100000 in
theorem c_X9_has (l : Launch) (D : va_G) (k : jK) (t0 : Nat) (t1 : Nat) (t2 : Nat) (t3 : Nat) (y : Int32) (sz : Nat)  : Met l yX9_has ws_c_X9_has ({ frames := 1, cells := 0, slots := 0, locals := 22 }) (jy_P [.ref t0, .int y] D vwCl (jT k) jW [(t0, .inr (8, [.ref t1, .ref t2, .ref t3]))] sz) (vp_Si (fun (r : Int32) => (r = 1 ∧ ¬ y < 0 ∧ ¬ 3 < y) ∨ (r = 0 ∧ (y < 0 ∨ 3 < y)))) 0 0 (fun _ => False) := by
  refine jy_metS (cc := cX9_has) (maxL := 2) (ret := (some .boolean)) (lv := [(0, .ref t0), (1, .int y)]) (by decide) rfl (Nat.le_of_ble_eq_true rfl) rfl ?_
  intro p e s m below meth c F hr hlk hN
  refine jy_iload_n (pc' := 1) F 1 dX9_has_0 rfl rfl rfl ?_
  refine jy_iconst (pc' := 2) (v := 0) F dX9_has_1 (by decide) rfl ?_
  refine jy_iconst (pc' := 3) (v := 3) F dX9_has_2 (by decide) rfl ?_
  refine jy_callSi (pc' := 6) (jy_runSN (As := [.int y, .int 0, .int 3]) (st := []) F hN (fun sz => c_X11_within l D k y 0 3 sz ) (jy_cSN F g_c_X9_has_c_X11_within rfl hdX11_within (List.mem_of_getElem? (i := 2) rfl) ((hN _ (List.mem_of_getElem? (i := 11) rfl)).2) (List.mem_of_getElem? (i := 3) rfl) rfl rfl ⟨by decide, by decide⟩) [] rfl (by decide) rfl rfl (Nat.le_of_ble_eq_true rfl) dX9_has_3 ⟨by decide, by decide⟩) rfl (fun r_1 e_2 => ?_)
  rcases e_2 with ⟨z_4, h_3⟩ | ⟨z_5, h_3⟩
  · subst z_4
    exact jy_zretS (v := 1) F hr hlk (by first | rfl | decide) (Or.inl ⟨rfl, h_3⟩) dX9_has_6
  · subst z_5
    exact jy_zretS (v := 0) F hr hlk (by first | rfl | decide) (Or.inr ⟨rfl, h_3⟩) dX9_has_6
abbrev cX9_isMissing : ByteArray := prog_11_method_3_code
def yX9_isMissing : MethodName := ⟨RX9, "isMissing", "(I)Z"⟩
theorem hdX9_isMissing : yX9_isMissing.cls ≠ "java/lang/invoke/MethodHandle" ∧ yX9_isMissing.cls ≠ "java/lang/invoke/VarHandle" ∧ (parseMethodDescriptor yX9_isMissing.desc).map (fun d => d.parameters.length) = some 1 := by decide +kernel
theorem dX9_isMissing_0 : decode cX9_isMissing 0 = .ok (.aload_n 0, 1) := by decide +kernel
theorem dX9_isMissing_1 : decode cX9_isMissing 1 = .ok (.getfield 19, 3) := by decide +kernel
theorem dX9_isMissing_4 : decode cX9_isMissing 4 = .ok (.iload_n 1, 1) := by decide +kernel
theorem dX9_isMissing_5 : decode cX9_isMissing 5 = .ok (.iaload, 1) := by decide +kernel
theorem dX9_isMissing_6 : decode cX9_isMissing 6 = .ok (.iconst (-1), 1) := by decide +kernel
theorem dX9_isMissing_7 : decode cX9_isMissing 7 = .ok (.if_icmp .ne 7, 3) := by decide +kernel
theorem dX9_isMissing_10 : decode cX9_isMissing 10 = .ok (.iconst 1, 1) := by decide +kernel
theorem dX9_isMissing_11 : decode cX9_isMissing 11 = .ok (.goto 4, 3) := by decide +kernel
theorem dX9_isMissing_15 : decode cX9_isMissing 15 = .ok (.ireturn, 1) := by decide +kernel
def ws_c_X9_isMissing : List Cond := .code yX9_isMissing cX9_isMissing 2 (some .boolean) :: ([.fieldLink "NestedChecker$Trays" 19 "NestedChecker$Trays" "places" "[I"] ++ wsX90)
set_option maxHeartbeats 4000000 in
set_option maxRecDepth 100000 in
theorem c_X9_isMissing (l : Launch) (D : va_G) (k : jK) (t0 : Nat) (t1 : Nat) (t2 : Nat) (t3 : Nat) (fp : Nat → Int32) (tt : Nat) (sz : Nat) (hp : ∀ j, j < 4 → fp j = -1) (ht : tt < 4) : Met l yX9_isMissing ws_c_X9_isMissing ({ frames := 0, cells := 0, slots := 0, locals := 0 }) (jy_P [.ref t0, .int (nI tt)] D vwCl (jT k) jW [(t0, .inr (8, [.ref t1, .ref t2, .ref t3])), (t3, .inl (k.2.1, 4, .inl fp))] sz) (vp_Si (fun (r : Int32) => r = 1)) 0 0 (fun _ => False) := by
  refine jy_metS (cc := cX9_isMissing) (maxL := 2) (ret := (some .boolean)) (lv := [(0, .ref t0), (1, .int (nI tt))]) (by decide) rfl (Nat.le_of_ble_eq_true rfl) rfl ?_
  intro p e s m below meth c F hr hlk hN
  have hiX9 : ∀ w ∈ u_ws RX9 TX9 3, w ∈ ws_c_X9_isMissing := fun w hw => List.mem_cons_of_mem _ (List.mem_append_right _ hw)
  refine jy_aload_n (pc' := 1) F 0 dX9_isMissing_0 rfl rfl rfl ?_
  refine jy_get (pc' := 4) (C := RX9) (T := TX9) (N := 3) (ci := 8) (v := .ref t3) F hiX9 0 rfl rfl 2 (by decide) dX9_isMissing_1 (List.mem_of_getElem? (i := 1) rfl) rfl rfl ?_
  refine jy_iload_n (pc' := 5) F 1 dX9_isMissing_4 rfl rfl rfl ?_
  refine jy_iald (pc' := 6) (v := (-1)) F 1 1 rfl rfl dX9_isMissing_5 (vp_in_nI (n := tt) (by omega) (by omega)) (by rw [nI_clamp (by omega)]; exact hp _ (by omega)) rfl ?_
  refine jy_iconst (pc' := 7) (v := (-1)) F dX9_isMissing_6 (by decide) rfl ?_
  refine jy_icmp_ne (pc' := 10) (tgt := 14) F dX9_isMissing_7 (by decide) rfl (fun h => absurd h (by decide)) (fun _ => ?_)
  refine jy_iconst (pc' := 11) (v := 1) F dX9_isMissing_10 (by decide) rfl ?_
  refine jy_goto (tgt := 15) F dX9_isMissing_11 (by decide) ?_
  exact jy_zretS (v := 1) F hr hlk (by first | rfl | decide) (rfl) dX9_isMissing_15
abbrev cX9_refusal : ByteArray := prog_11_method_5_code
def yX9_refusal : MethodName := ⟨RX9, "refusal", "(II)I"⟩
theorem hdX9_refusal : yX9_refusal.cls ≠ "java/lang/invoke/MethodHandle" ∧ yX9_refusal.cls ≠ "java/lang/invoke/VarHandle" ∧ (parseMethodDescriptor yX9_refusal.desc).map (fun d => d.parameters.length) = some 2 := by decide +kernel
theorem dX9_refusal_0 : decode cX9_refusal 0 = .ok (.aload_n 0, 1) := by decide +kernel
theorem dX9_refusal_1 : decode cX9_refusal 1 = .ok (.iload_n 1, 1) := by decide +kernel
theorem dX9_refusal_2 : decode cX9_refusal 2 = .ok (.invokevirtual 26, 3) := by decide +kernel
theorem dX9_refusal_5 : decode cX9_refusal 5 = .ok (.ifCond .ne 5, 3) := by decide +kernel
theorem dX9_refusal_8 : decode cX9_refusal 8 = .ok (.iconst 1, 1) := by decide +kernel
theorem dX9_refusal_9 : decode cX9_refusal 9 = .ok (.ireturn, 1) := by decide +kernel
theorem dX9_refusal_10 : decode cX9_refusal 10 = .ok (.aload_n 0, 1) := by decide +kernel
theorem dX9_refusal_11 : decode cX9_refusal 11 = .ok (.iload_n 1, 1) := by decide +kernel
theorem dX9_refusal_12 : decode cX9_refusal 12 = .ok (.invokevirtual 30, 3) := by decide +kernel
theorem dX9_refusal_15 : decode cX9_refusal 15 = .ok (.ifCond .eq 5, 3) := by decide +kernel
theorem dX9_refusal_18 : decode cX9_refusal 18 = .ok (.iconst 2, 1) := by decide +kernel
theorem dX9_refusal_19 : decode cX9_refusal 19 = .ok (.ireturn, 1) := by decide +kernel
def ws_c_X9_refusal : List Cond := .code yX9_refusal cX9_refusal 3 (some .int) :: ([.code ⟨"NestedChecker$Trays", "has", "(I)Z"⟩ cX9_has 2 (some .boolean), .code ⟨"NestedChecker", "within", "(III)Z"⟩ cX11_within 3 (some .boolean), .initialized "NestedChecker", .static ⟨"NestedChecker", "within", "(III)Z"⟩, .initialized "NestedChecker$Trays", .instanceMethod ⟨"NestedChecker$Trays", "has", "(I)Z"⟩, .selects "NestedChecker$Trays" ⟨"NestedChecker$Trays", "has", "(I)Z"⟩ ⟨"NestedChecker$Trays", "has", "(I)Z"⟩, .methodLink "NestedChecker$Trays" 26 ⟨"NestedChecker$Trays", "has", "(I)Z"⟩, .code ⟨"NestedChecker$Trays", "isMissing", "(I)Z"⟩ cX9_isMissing 2 (some .boolean), .fieldLink "NestedChecker$Trays" 19 "NestedChecker$Trays" "places" "[I", .instanceMethod ⟨"NestedChecker$Trays", "isMissing", "(I)Z"⟩, .selects "NestedChecker$Trays" ⟨"NestedChecker$Trays", "isMissing", "(I)Z"⟩ ⟨"NestedChecker$Trays", "isMissing", "(I)Z"⟩, .methodLink "NestedChecker$Trays" 30 ⟨"NestedChecker$Trays", "isMissing", "(I)Z"⟩] ++ wsX90)
set_option maxRecDepth 20000 in
theorem g_c_X9_refusal_c_X9_has : GoodIn ws_c_X9_refusal ws_c_X9_has := goodIn_r _ [1, 2, 3, 4] (by decide +kernel) (by decide +kernel)
set_option maxRecDepth 20000 in
theorem g_c_X9_refusal_c_X9_isMissing : GoodIn ws_c_X9_refusal ws_c_X9_isMissing := goodIn_r _ [9, 10, 14, 15, 16] (by decide +kernel) (by decide +kernel)
set_option maxHeartbeats 4000000 in
set_option maxRecDepth 100000 in
theorem c_X9_refusal (l : Launch) (D : va_G) (k : jK) (t0 : Nat) (t1 : Nat) (t2 : Nat) (t3 : Nat) (fp : Nat → Int32) (y : Int32) (z : Int32) (sz : Nat) (hp : ∀ j, j < 4 → fp j = -1) : Met l yX9_refusal ws_c_X9_refusal ({ frames := 2, cells := 0, slots := 0, locals := 43 }) (jy_P [.ref t0, .int y, .int z] D vwCl (jT k) jW [(t0, .inr (8, [.ref t1, .ref t2, .ref t3])), (t3, .inl (k.2.1, 4, .inl fp))] sz) (vp_Si (fun (r : Int32) => ¬ r = 0)) 0 0 (fun _ => False) := by
  refine jy_metS (cc := cX9_refusal) (maxL := 3) (ret := (some .int)) (lv := [(0, .ref t0), (1, .int y), (2, .int z)]) (by decide) rfl (Nat.le_of_ble_eq_true rfl) rfl ?_
  intro p e s m below meth c F hr hlk hN
  have hiX9 : ∀ w ∈ u_ws RX9 TX9 3, w ∈ ws_c_X9_refusal := fun w hw => List.mem_cons_of_mem _ (List.mem_append_right _ hw)
  refine jy_aload_n (pc' := 1) F 0 dX9_refusal_0 rfl rfl rfl ?_
  refine jy_iload_n (pc' := 2) F 1 dX9_refusal_1 rfl rfl rfl ?_
  refine jy_callSi (pc' := 5) (jy_runV (As := [.int y]) (b := t0) (q0 := 0) (ci := 8) (C := RX9) (T := TX9) (N := 3) (st := []) F hN (fun sz => c_X9_has l D k t0 t1 t2 t3 y sz ) (jy_cV F g_c_X9_refusal_c_X9_has rfl hdX9_has (List.mem_of_getElem? (i := 5) rfl) (List.mem_of_getElem? (i := 8) rfl) (List.mem_of_getElem? (i := 6) rfl) (List.mem_of_getElem? (i := 7) rfl) rfl rfl ⟨by decide, by decide⟩) rfl rfl [0] rfl (by decide) rfl rfl (Nat.le_of_ble_eq_true rfl) dX9_refusal_2 ⟨by decide, by decide⟩) rfl (fun r_1 e_2 => ?_)
  rcases e_2 with ⟨z_4, h_3⟩ | ⟨z_5, h_3⟩
  · subst z_4
    refine jy_if_ne (pc' := 8) (tgt := 10) F dX9_refusal_5 (by decide) rfl (fun _ => ?_) (fun h => absurd h (by decide))
    obtain ⟨tt, htt, rfl⟩ := nI_of2 (M := 3) (n := 3) rfl h_3.1 (Int32.not_lt.mp h_3.2)
    refine jy_aload_n (pc' := 11) F 0 dX9_refusal_10 rfl rfl rfl ?_
    refine jy_iload_n (pc' := 12) F 1 dX9_refusal_11 rfl rfl rfl ?_
    refine jy_callSi (pc' := 15) (jy_runV (As := [.int (nI tt)]) (b := t0) (q0 := 0) (ci := 8) (C := RX9) (T := TX9) (N := 3) (st := []) F hN (fun sz => c_X9_isMissing l D k t0 t1 t2 t3 fp tt sz (hp) (by omega)) (jy_cV F g_c_X9_refusal_c_X9_isMissing rfl hdX9_isMissing (List.mem_of_getElem? (i := 5) rfl) (List.mem_of_getElem? (i := 13) rfl) (List.mem_of_getElem? (i := 11) rfl) (List.mem_of_getElem? (i := 12) rfl) rfl rfl ⟨by decide, by decide⟩) rfl rfl [0, 1] rfl (by decide) rfl rfl (Nat.le_of_ble_eq_true rfl) dX9_refusal_12 ⟨by decide, by decide⟩) rfl (fun r_7 e_8 => ?_)
    subst e_8
    refine jy_if_eq (pc' := 18) (tgt := 20) F dX9_refusal_15 (by decide) rfl (fun h => absurd h (by decide)) (fun _ => ?_)
    refine jy_iconst (pc' := 19) (v := 2) F dX9_refusal_18 (by decide) rfl ?_
    exact jy_iretS (v := 2) F hr hlk (by decide) dX9_refusal_19
  · subst z_5
    refine jy_if_ne (pc' := 8) (tgt := 10) F dX9_refusal_5 (by decide) rfl (fun h => absurd h (by decide)) (fun _ => ?_)
    refine jy_iconst (pc' := 9) (v := 1) F dX9_refusal_8 (by decide) rfl ?_
    exact jy_iretS (v := 1) F hr hlk (by decide) dX9_refusal_9
