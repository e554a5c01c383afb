abbrev cX11_shortest : ByteArray := prog_1_method_31_code
def yX11_shortest : MethodName := ⟨RX11, "shortest", "(I)I"⟩
theorem hdX11_shortest : yX11_shortest.cls ≠ "java/lang/invoke/MethodHandle" ∧ yX11_shortest.cls ≠ "java/lang/invoke/VarHandle" ∧ (parseMethodDescriptor yX11_shortest.desc).map (fun d => d.parameters.length) = some 1 := by decide +kernel
theorem dX11_shortest_0 : decode cX11_shortest 0 = .ok (.aload_n 0, 1) := by decide +kernel
theorem dX11_shortest_1 : decode cX11_shortest 1 = .ok (.getfield 26, 3) := by decide +kernel
theorem dX11_shortest_4 : decode cX11_shortest 4 = .ok (.iload_n 1, 1) := by decide +kernel
theorem dX11_shortest_5 : decode cX11_shortest 5 = .ok (.invokevirtual 163, 3) := by decide +kernel
theorem dX11_shortest_8 : decode cX11_shortest 8 = .ok (.ifCond .ne 9, 3) := by decide +kernel
theorem dX11_shortest_11 : decode cX11_shortest 11 = .ok (.aload_n 0, 1) := by decide +kernel
theorem dX11_shortest_12 : decode cX11_shortest 12 = .ok (.iconst 1, 1) := by decide +kernel
theorem dX11_shortest_13 : decode cX11_shortest 13 = .ok (.invokevirtual 110, 3) := by decide +kernel
theorem dX11_shortest_16 : decode cX11_shortest 16 = .ok (.ireturn, 1) := by decide +kernel
def ws_c_X11_shortest : List Cond := .code yX11_shortest cX11_shortest 2 (some .int) :: ([.fieldLink "NestedChecker" 26 "NestedChecker" "live" "LNestedChecker$Setting;", .code ⟨"NestedChecker$Setting", "has", "(I)Z"⟩ cX5_has 2 (some .boolean), .fieldLink "NestedChecker$Setting" 38 "NestedChecker$Setting" "automata" "I", .initialized "NestedChecker$Setting", .instanceMethod ⟨"NestedChecker$Setting", "has", "(I)Z"⟩, .selects "NestedChecker$Setting" ⟨"NestedChecker$Setting", "has", "(I)Z"⟩ ⟨"NestedChecker$Setting", "has", "(I)Z"⟩, .methodLink "NestedChecker" 163 ⟨"NestedChecker$Setting", "has", "(I)Z"⟩, .code ⟨"NestedChecker", "refuse", "(I)I"⟩ cX11_refuse 2 (some .int), .fieldLink "NestedChecker" 72 "NestedChecker" "lastStatus" "I", .initialized "NestedChecker", .instanceMethod ⟨"NestedChecker", "refuse", "(I)I"⟩, .selects "NestedChecker" ⟨"NestedChecker", "refuse", "(I)I"⟩ ⟨"NestedChecker", "refuse", "(I)I"⟩, .methodLink "NestedChecker" 110 ⟨"NestedChecker", "refuse", "(I)I"⟩] ++ wsX110 ++ wsX50)
set_option maxRecDepth 20000 in
theorem g_c_X11_shortest_c_X5_has : GoodIn ws_c_X11_shortest ws_c_X5_has := goodIn_r _ [2, 3, 29, 30, 31, 32, 33, 34, 35] (by decide +kernel) (by decide +kernel)
set_option maxRecDepth 20000 in
theorem g_c_X11_shortest_c_X11_refuse : GoodIn ws_c_X11_shortest ws_c_X11_refuse := goodIn_r _ [8, 9, 14, 15, 16, 17, 18, 19, 20, 21, 22, 23, 24, 25, 26, 27, 28] (by decide +kernel) (by decide +kernel)
set_option maxHeartbeats 4000000 in
set_option maxRecDepth 100000 in
theorem c_X11_shortest (l : Launch) (D : va_G) (k : jK) (h0 : Nat) (a2 : Nat) (a4 : Nat) (a5 : Nat) (a6 : Nat) (a7 : Nat) (a8 : Nat) (a9 : Nat) (a10 : Nat) (t0 : Nat) (s0 : Nat) (s1 : Nat) (s2 : Nat) (s3 : Nat) (i1 : Int32) (sz : Nat)  : Met l yX11_shortest ws_c_X11_shortest ({ frames := 1, cells := 0, slots := 0, locals := 21 }) (jy_P [.ref h0, .int i1] D vwCl (jT k) jW [(h0, .inr (10, [.int 0, .long 0, .long 1, .ref t0, .ref a2, .ref s0, .ref a4, .int 0, .ref a5, .ref a6, .ref a7, .ref a8, .ref a9, .ref a10, .int 0])), (s0, .inr (4, [.int 0, .int 0, .int 0, .int 0, .ref s1, .ref s2, .ref s3]))] sz) (va_Qi (fun (r : Int32) (u : Unit) => r = -1) (jy_B D vwCl (va_A [(h0, .inr (10, [.int 0, .long 0, .long 1, .ref t0, .ref a2, .ref s0, .ref a4, .int 0, .ref a5, .ref a6, .ref a7, .ref a8, .ref a9, .ref a10, .int 0])), (s0, .inr (4, [.int 0, .int 0, .int 0, .int 0, .ref s1, .ref s2, .ref s3]))] sz) (fun (u : Unit) => [])) (va_A [(h0, .inr (10, [.int 0, .long 0, .long 1, .ref t0, .ref a2, .ref s0, .ref a4, .int 0, .ref a5, .ref a6, .ref a7, .ref a8, .ref a9, .ref a10, .int 0])), (s0, .inr (4, [.int 0, .int 0, .int 0, .int 0, .ref s1, .ref s2, .ref s3]))] sz)) 0 0 (va_A [(h0, .inr (10, [.int 0, .long 0, .long 1, .ref t0, .ref a2, .ref s0, .ref a4, .int 0, .ref a5, .ref a6, .ref a7, .ref a8, .ref a9, .ref a10, .int 0])), (s0, .inr (4, [.int 0, .int 0, .int 0, .int 0, .ref s1, .ref s2, .ref s3]))] sz) := by
  refine jy_met (cc := cX11_shortest) (maxL := 2) (ret := (some .int)) (lv := [(0, .ref h0), (1, .int i1)]) (by decide) rfl (Nat.le_of_ble_eq_true rfl) rfl ?_
  intro p e s m below meth c F hr hlk hnm hN hA
  have hiX11 : ∀ w ∈ u_ws RX11 TX11 15, w ∈ ws_c_X11_shortest := fun w hw => List.mem_cons_of_mem _ (List.mem_append_left _ (List.mem_append_right _ hw))
  have hiX5 : ∀ w ∈ u_ws RX5 TX5 7, w ∈ ws_c_X11_shortest := fun w hw => List.mem_cons_of_mem _ (List.mem_append_right _ hw)
  refine jy_aload_n (pc' := 1) F 0 dX11_shortest_0 rfl rfl rfl ?_
  refine jy_get (pc' := 4) (C := RX11) (T := TX11) (N := 15) (ci := 10) (v := .ref s0) F hiX11 0 rfl rfl 5 (by decide) dX11_shortest_1 (List.mem_of_getElem? (i := 1) rfl) rfl rfl ?_
  refine jy_iload_n (pc' := 5) F 1 dX11_shortest_4 rfl rfl rfl ?_
  refine jy_callSi (pc' := 8) (jy_runV (As := [.int i1]) (b := s0) (q0 := 1) (ci := 4) (C := RX5) (T := TX5) (N := 7) (st := []) F hN (fun sz => c_X5_has l D k s0 s1 s2 s3 i1 sz ) (jy_cV F g_c_X11_shortest_c_X5_has rfl hdX5_has (List.mem_of_getElem? (i := 4) rfl) (List.mem_of_getElem? (i := 7) rfl) (List.mem_of_getElem? (i := 5) rfl) (List.mem_of_getElem? (i := 6) rfl) rfl rfl ⟨by decide, by decide⟩) rfl rfl [1] rfl (by decide) rfl rfl (Nat.le_of_ble_eq_true rfl) dX11_shortest_5 ⟨by decide, by decide⟩) rfl (fun r_1 e_2 => ?_)
  subst e_2
  refine jy_if_ne (pc' := 11) (tgt := 17) F dX11_shortest_8 (by decide) rfl (fun h => absurd h (by decide)) (fun _ => ?_)
  refine jy_aload_n (pc' := 12) F 0 dX11_shortest_11 rfl rfl rfl ?_
  refine jy_iconst (pc' := 13) (v := 1) F dX11_shortest_12 (by decide) rfl ?_
  refine jy_calli (pc' := 16) (cells' := 0) (slots' := 0) (wr := [(s0, .inr (4, [.int 0, .int 0, .int 0, .int 0, .ref s1, .ref s2, .ref s3]))]) hA [0] [1] rfl rfl (by decide) (by decide) (jy_runV (As := [.int 1]) (b := h0) (q0 := 0) (ci := 10) (C := RX11) (T := TX11) (N := 15) (st := []) F hN (fun sz => c_X11_refuse l D k h0 0 (.long 0) (.long 1) (.ref t0) (.ref a2) (.ref s0) (.ref a4) (.int 0) (.ref a5) (.ref a6) (.ref a7) (.ref a8) (.ref a9) (.ref a10) (.int 0) 1 sz ) (jy_cV F g_c_X11_shortest_c_X11_refuse rfl hdX11_refuse (List.mem_of_getElem? (i := 10) rfl) (List.mem_of_getElem? (i := 13) rfl) (List.mem_of_getElem? (i := 11) rfl) (List.mem_of_getElem? (i := 12) rfl) rfl rfl ⟨by decide, by decide⟩) rfl rfl [0] rfl (by decide) rfl rfl (Nat.le_of_ble_eq_true rfl) dX11_shortest_13 ⟨by decide, by decide⟩) rfl rfl rfl (fun r_6 u_4 e_5 => ?_)
  subst e_5
  refine jy_widen (cells' := 0) (slots' := 0) (by decide) (by decide) ?_
  exact jy_iret (v := (-1)) F hr hlk () (rfl) [] rfl (by decide) dX11_shortest_16
abbrev cX11_shortestAt : ByteArray := prog_1_method_32_code
def yX11_shortestAt : MethodName := ⟨RX11, "shortestAt", "(II)I"⟩
theorem hdX11_shortestAt : yX11_shortestAt.cls ≠ "java/lang/invoke/MethodHandle" ∧ yX11_shortestAt.cls ≠ "java/lang/invoke/VarHandle" ∧ (parseMethodDescriptor yX11_shortestAt.desc).map (fun d => d.parameters.length) = some 2 := by decide +kernel
theorem dX11_shortestAt_0 : decode cX11_shortestAt 0 = .ok (.aload_n 0, 1) := by decide +kernel
theorem dX11_shortestAt_1 : decode cX11_shortestAt 1 = .ok (.getfield 26, 3) := by decide +kernel
theorem dX11_shortestAt_4 : decode cX11_shortestAt 4 = .ok (.iload_n 1, 1) := by decide +kernel
theorem dX11_shortestAt_5 : decode cX11_shortestAt 5 = .ok (.invokevirtual 163, 3) := by decide +kernel
theorem dX11_shortestAt_8 : decode cX11_shortestAt 8 = .ok (.ifCond .eq 7, 3) := by decide +kernel
theorem dX11_shortestAt_15 : decode cX11_shortestAt 15 = .ok (.aload_n 0, 1) := by decide +kernel
theorem dX11_shortestAt_16 : decode cX11_shortestAt 16 = .ok (.iconst 1, 1) := by decide +kernel
theorem dX11_shortestAt_17 : decode cX11_shortestAt 17 = .ok (.invokevirtual 110, 3) := by decide +kernel
theorem dX11_shortestAt_20 : decode cX11_shortestAt 20 = .ok (.ireturn, 1) := by decide +kernel
def ws_c_X11_shortestAt : List Cond := .code yX11_shortestAt cX11_shortestAt 3 (some .int) :: ([.fieldLink "NestedChecker" 26 "NestedChecker" "live" "LNestedChecker$Setting;", .code ⟨"NestedChecker$Setting", "has", "(I)Z"⟩ cX5_has 2 (some .boolean), .fieldLink "NestedChecker$Setting" 38 "NestedChecker$Setting" "automata" "I", .initialized "NestedChecker$Setting", .instanceMethod ⟨"NestedChecker$Setting", "has", "(I)Z"⟩, .selects "NestedChecker$Setting" ⟨"NestedChecker$Setting", "has", "(I)Z"⟩ ⟨"NestedChecker$Setting", "has", "(I)Z"⟩, .methodLink "NestedChecker" 163 ⟨"NestedChecker$Setting", "has", "(I)Z"⟩, .code ⟨"NestedChecker", "refuse", "(I)I"⟩ cX11_refuse 2 (some .int), .fieldLink "NestedChecker" 72 "NestedChecker" "lastStatus" "I", .initialized "NestedChecker", .instanceMethod ⟨"NestedChecker", "refuse", "(I)I"⟩, .selects "NestedChecker" ⟨"NestedChecker", "refuse", "(I)I"⟩ ⟨"NestedChecker", "refuse", "(I)I"⟩, .methodLink "NestedChecker" 110 ⟨"NestedChecker", "refuse", "(I)I"⟩] ++ wsX110 ++ wsX50)
set_option maxRecDepth 20000 in
theorem g_c_X11_shortestAt_c_X5_has : GoodIn ws_c_X11_shortestAt ws_c_X5_has := goodIn_r _ [2, 3, 29, 30, 31, 32, 33, 34, 35] (by decide +kernel) (by decide +kernel)
set_option maxRecDepth 20000 in
theorem g_c_X11_shortestAt_c_X11_refuse : GoodIn ws_c_X11_shortestAt ws_c_X11_refuse := goodIn_r _ [8, 9, 14, 15, 16, 17, 18, 19, 20, 21, 22, 23, 24, 25, 26, 27, 28] (by decide +kernel) (by decide +kernel)
set_option maxHeartbeats 4000000 in
set_option maxRecDepth 100000 in
theorem c_X11_shortestAt (l : Launch) (D : va_G) (k : jK) (h0 : Nat) (a2 : Nat) (a4 : Nat) (a5 : Nat) (a6 : Nat) (a7 : Nat) (a8 : Nat) (a9 : Nat) (a10 : Nat) (t0 : Nat) (s0 : Nat) (s1 : Nat) (s2 : Nat) (s3 : Nat) (i1 : Int32) (i2 : Int32) (sz : Nat)  : Met l yX11_shortestAt ws_c_X11_shortestAt ({ frames := 1, cells := 0, slots := 0, locals := 21 }) (jy_P [.ref h0, .int i1, .int i2] D vwCl (jT k) jW [(h0, .inr (10, [.int 0, .long 0, .long 1, .ref t0, .ref a2, .ref s0, .ref a4, .int 0, .ref a5, .ref a6, .ref a7, .ref a8, .ref a9, .ref a10, .int 0])), (s0, .inr (4, [.int 0, .int 0, .int 0, .int 0, .ref s1, .ref s2, .ref s3]))] sz) (va_Qi (fun (r : Int32) (u : Unit) => r = -1) (jy_B D vwCl (va_A [(h0, .inr (10, [.int 0, .long 0, .long 1, .ref t0, .ref a2, .ref s0, .ref a4, .int 0, .ref a5, .ref a6, .ref a7, .ref a8, .ref a9, .ref a10, .int 0])), (s0, .inr (4, [.int 0, .int 0, .int 0, .int 0, .ref s1, .ref s2, .ref s3]))] sz) (fun (u : Unit) => [])) (va_A [(h0, .inr (10, [.int 0, .long 0, .long 1, .ref t0, .ref a2, .ref s0, .ref a4, .int 0, .ref a5, .ref a6, .ref a7, .ref a8, .ref a9, .ref a10, .int 0])), (s0, .inr (4, [.int 0, .int 0, .int 0, .int 0, .ref s1, .ref s2, .ref s3]))] sz)) 0 0 (va_A [(h0, .inr (10, [.int 0, .long 0, .long 1, .ref t0, .ref a2, .ref s0, .ref a4, .int 0, .ref a5, .ref a6, .ref a7, .ref a8, .ref a9, .ref a10, .int 0])), (s0, .inr (4, [.int 0, .int 0, .int 0, .int 0, .ref s1, .ref s2, .ref s3]))] sz) := by
  refine jy_met (cc := cX11_shortestAt) (maxL := 3) (ret := (some .int)) (lv := [(0, .ref h0), (1, .int i1), (2, .int i2)]) (by decide) rfl (Nat.le_of_ble_eq_true rfl) rfl ?_
  intro p e s m below meth c F hr hlk hnm hN hA
  have hiX11 : ∀ w ∈ u_ws RX11 TX11 15, w ∈ ws_c_X11_shortestAt := fun w hw => List.mem_cons_of_mem _ (List.mem_append_left _ (List.mem_append_right _ hw))
  have hiX5 : ∀ w ∈ u_ws RX5 TX5 7, w ∈ ws_c_X11_shortestAt := fun w hw => List.mem_cons_of_mem _ (List.mem_append_right _ hw)
  refine jy_aload_n (pc' := 1) F 0 dX11_shortestAt_0 rfl rfl rfl ?_
  refine jy_get (pc' := 4) (C := RX11) (T := TX11) (N := 15) (ci := 10) (v := .ref s0) F hiX11 0 rfl rfl 5 (by decide) dX11_shortestAt_1 (List.mem_of_getElem? (i := 1) rfl) rfl rfl ?_
  refine jy_iload_n (pc' := 5) F 1 dX11_shortestAt_4 rfl rfl rfl ?_
  refine jy_callSi (pc' := 8) (jy_runV (As := [.int i1]) (b := s0) (q0 := 1) (ci := 4) (C := RX5) (T := TX5) (N := 7) (st := []) F hN (fun sz => c_X5_has l D k s0 s1 s2 s3 i1 sz ) (jy_cV F g_c_X11_shortestAt_c_X5_has rfl hdX5_has (List.mem_of_getElem? (i := 4) rfl) (List.mem_of_getElem? (i := 7) rfl) (List.mem_of_getElem? (i := 5) rfl) (List.mem_of_getElem? (i := 6) rfl) rfl rfl ⟨by decide, by decide⟩) rfl rfl [1] rfl (by decide) rfl rfl (Nat.le_of_ble_eq_true rfl) dX11_shortestAt_5 ⟨by decide, by decide⟩) rfl (fun r_1 e_2 => ?_)
  subst e_2
  refine jy_if_eq (pc' := 11) (tgt := 15) F dX11_shortestAt_8 (by decide) rfl (fun _ => ?_) (fun h => absurd h (by decide))
  refine jy_aload_n (pc' := 16) F 0 dX11_shortestAt_15 rfl rfl rfl ?_
  refine jy_iconst (pc' := 17) (v := 1) F dX11_shortestAt_16 (by decide) rfl ?_
  refine jy_calli (pc' := 20) (cells' := 0) (slots' := 0) (wr := [(s0, .inr (4, [.int 0, .int 0, .int 0, .int 0, .ref s1, .ref s2, .ref s3]))]) hA [0] [1] rfl rfl (by decide) (by decide) (jy_runV (As := [.int 1]) (b := h0) (q0 := 0) (ci := 10) (C := RX11) (T := TX11) (N := 15) (st := []) F hN (fun sz => c_X11_refuse l D k h0 0 (.long 0) (.long 1) (.ref t0) (.ref a2) (.ref s0) (.ref a4) (.int 0) (.ref a5) (.ref a6) (.ref a7) (.ref a8) (.ref a9) (.ref a10) (.int 0) 1 sz ) (jy_cV F g_c_X11_shortestAt_c_X11_refuse rfl hdX11_refuse (List.mem_of_getElem? (i := 10) rfl) (List.mem_of_getElem? (i := 13) rfl) (List.mem_of_getElem? (i := 11) rfl) (List.mem_of_getElem? (i := 12) rfl) rfl rfl ⟨by decide, by decide⟩) rfl rfl [0] rfl (by decide) rfl rfl (Nat.le_of_ble_eq_true rfl) dX11_shortestAt_17 ⟨by decide, by decide⟩) rfl rfl rfl (fun r_6 u_4 e_5 => ?_)
  subst e_5
  refine jy_widen (cells' := 0) (slots' := 0) (by decide) (by decide) ?_
  exact jy_iret (v := (-1)) F hr hlk () (rfl) [] rfl (by decide) dX11_shortestAt_20
abbrev cX11_both : ByteArray := prog_1_method_33_code
def yX11_both : MethodName := ⟨RX11, "both", "(II)I"⟩
theorem hdX11_both : yX11_both.cls ≠ "java/lang/invoke/MethodHandle" ∧ yX11_both.cls ≠ "java/lang/invoke/VarHandle" ∧ (parseMethodDescriptor yX11_both.desc).map (fun d => d.parameters.length) = some 2 := by decide +kernel
theorem dX11_both_0 : decode cX11_both 0 = .ok (.aload_n 0, 1) := by decide +kernel
theorem dX11_both_1 : decode cX11_both 1 = .ok (.iload_n 1, 1) := by decide +kernel
theorem dX11_both_2 : decode cX11_both 2 = .ok (.iload_n 2, 1) := by decide +kernel
theorem dX11_both_3 : decode cX11_both 3 = .ok (.invokevirtual 219, 3) := by decide +kernel
theorem dX11_both_6 : decode cX11_both 6 = .ok (.ifCond .ne 9, 3) := by decide +kernel
theorem dX11_both_9 : decode cX11_both 9 = .ok (.aload_n 0, 1) := by decide +kernel
theorem dX11_both_10 : decode cX11_both 10 = .ok (.iconst 1, 1) := by decide +kernel
theorem dX11_both_11 : decode cX11_both 11 = .ok (.invokevirtual 110, 3) := by decide +kernel
theorem dX11_both_14 : decode cX11_both 14 = .ok (.ireturn, 1) := by decide +kernel
def ws_c_X11_both : List Cond := .code yX11_both cX11_both 3 (some .int) :: ([.code ⟨"NestedChecker", "areTwo", "(II)Z"⟩ cX11_areTwo 3 (some .boolean), .fieldLink "NestedChecker" 26 "NestedChecker" "live" "LNestedChecker$Setting;", .code ⟨"NestedChecker$Setting", "has", "(I)Z"⟩ cX5_has 2 (some .boolean), .fieldLink "NestedChecker$Setting" 38 "NestedChecker$Setting" "automata" "I", .initialized "NestedChecker$Setting", .instanceMethod ⟨"NestedChecker$Setting", "has", "(I)Z"⟩, .selects "NestedChecker$Setting" ⟨"NestedChecker$Setting", "has", "(I)Z"⟩ ⟨"NestedChecker$Setting", "has", "(I)Z"⟩, .methodLink "NestedChecker" 163 ⟨"NestedChecker$Setting", "has", "(I)Z"⟩, .initialized "NestedChecker", .instanceMethod ⟨"NestedChecker", "areTwo", "(II)Z"⟩, .selects "NestedChecker" ⟨"NestedChecker", "areTwo", "(II)Z"⟩ ⟨"NestedChecker", "areTwo", "(II)Z"⟩, .methodLink "NestedChecker" 219 ⟨"NestedChecker", "areTwo", "(II)Z"⟩, .code ⟨"NestedChecker", "refuse", "(I)I"⟩ cX11_refuse 2 (some .int), .fieldLink "NestedChecker" 72 "NestedChecker" "lastStatus" "I", .instanceMethod ⟨"NestedChecker", "refuse", "(I)I"⟩, .selects "NestedChecker" ⟨"NestedChecker", "refuse", "(I)I"⟩ ⟨"NestedChecker", "refuse", "(I)I"⟩, .methodLink "NestedChecker" 110 ⟨"NestedChecker", "refuse", "(I)I"⟩] ++ wsX110 ++ wsX50)
set_option maxRecDepth 20000 in
theorem g_c_X11_both_c_X11_areTwo : GoodIn ws_c_X11_both ws_c_X11_areTwo := goodIn_r _ [1, 2, 3, 4, 5, 6, 7, 8, 18, 19, 20, 21, 22, 23, 24, 25, 26, 27, 28, 29, 30, 31, 32, 33, 34, 35, 36, 37, 38, 39] (by decide +kernel) (by decide +kernel)
set_option maxRecDepth 20000 in
theorem g_c_X11_both_c_X11_refuse : GoodIn ws_c_X11_both ws_c_X11_refuse := goodIn_r _ [13, 14, 18, 19, 20, 21, 22, 23, 24, 25, 26, 27, 28, 29, 30, 31, 32] (by decide +kernel) (by decide +kernel)
set_option maxHeartbeats 4000000 in
set_option maxRecDepth 100000 in
theorem c_X11_both (l : Launch) (D : va_G) (k : jK) (h0 : Nat) (a2 : Nat) (a4 : Nat) (a5 : Nat) (a6 : Nat) (a7 : Nat) (a8 : Nat) (a9 : Nat) (a10 : Nat) (t0 : Nat) (s0 : Nat) (s1 : Nat) (s2 : Nat) (s3 : Nat) (i1 : Int32) (i2 : Int32) (sz : Nat)  : Met l yX11_both ws_c_X11_both ({ frames := 2, cells := 0, slots := 0, locals := 43 }) (jy_P [.ref h0, .int i1, .int i2] D vwCl (jT k) jW [(h0, .inr (10, [.int 0, .long 0, .long 1, .ref t0, .ref a2, .ref s0, .ref a4, .int 0, .ref a5, .ref a6, .ref a7, .ref a8, .ref a9, .ref a10, .int 0])), (s0, .inr (4, [.int 0, .int 0, .int 0, .int 0, .ref s1, .ref s2, .ref s3]))] sz) (va_Qi (fun (r : Int32) (u : Unit) => r = -1) (jy_B D vwCl (va_A [(h0, .inr (10, [.int 0, .long 0, .long 1, .ref t0, .ref a2, .ref s0, .ref a4, .int 0, .ref a5, .ref a6, .ref a7, .ref a8, .ref a9, .ref a10, .int 0])), (s0, .inr (4, [.int 0, .int 0, .int 0, .int 0, .ref s1, .ref s2, .ref s3]))] sz) (fun (u : Unit) => [])) (va_A [(h0, .inr (10, [.int 0, .long 0, .long 1, .ref t0, .ref a2, .ref s0, .ref a4, .int 0, .ref a5, .ref a6, .ref a7, .ref a8, .ref a9, .ref a10, .int 0])), (s0, .inr (4, [.int 0, .int 0, .int 0, .int 0, .ref s1, .ref s2, .ref s3]))] sz)) 0 0 (va_A [(h0, .inr (10, [.int 0, .long 0, .long 1, .ref t0, .ref a2, .ref s0, .ref a4, .int 0, .ref a5, .ref a6, .ref a7, .ref a8, .ref a9, .ref a10, .int 0])), (s0, .inr (4, [.int 0, .int 0, .int 0, .int 0, .ref s1, .ref s2, .ref s3]))] sz) := by
  refine jy_met (cc := cX11_both) (maxL := 3) (ret := (some .int)) (lv := [(0, .ref h0), (1, .int i1), (2, .int i2)]) (by decide) rfl (Nat.le_of_ble_eq_true rfl) rfl ?_
  intro p e s m below meth c F hr hlk hnm hN hA
  have hiX11 : ∀ w ∈ u_ws RX11 TX11 15, w ∈ ws_c_X11_both := fun w hw => List.mem_cons_of_mem _ (List.mem_append_left _ (List.mem_append_right _ hw))
  have hiX5 : ∀ w ∈ u_ws RX5 TX5 7, w ∈ ws_c_X11_both := fun w hw => List.mem_cons_of_mem _ (List.mem_append_right _ hw)
  refine jy_aload_n (pc' := 1) F 0 dX11_both_0 rfl rfl rfl ?_
  refine jy_iload_n (pc' := 2) F 1 dX11_both_1 rfl rfl rfl ?_
  refine jy_iload_n (pc' := 3) F 2 dX11_both_2 rfl rfl rfl ?_
  refine jy_callSi (pc' := 6) (jy_runV (As := [.int i1, .int i2]) (b := h0) (q0 := 0) (ci := 10) (C := RX11) (T := TX11) (N := 15) (st := []) F hN (fun sz => c_X11_areTwo l D k h0 a2 a4 a5 a6 a7 a8 a9 a10 t0 s0 s1 s2 s3 i1 i2 sz ) (jy_cV F g_c_X11_both_c_X11_areTwo rfl hdX11_areTwo (List.mem_of_getElem? (i := 9) rfl) (List.mem_of_getElem? (i := 12) rfl) (List.mem_of_getElem? (i := 10) rfl) (List.mem_of_getElem? (i := 11) rfl) rfl rfl ⟨by decide, by decide⟩) rfl rfl [0, 1] rfl (by decide) rfl rfl (Nat.le_of_ble_eq_true rfl) dX11_both_3 ⟨by decide, by decide⟩) rfl (fun r_1 e_2 => ?_)
  subst e_2
  refine jy_if_ne (pc' := 9) (tgt := 15) F dX11_both_6 (by decide) rfl (fun h => absurd h (by decide)) (fun _ => ?_)
  refine jy_aload_n (pc' := 10) F 0 dX11_both_9 rfl rfl rfl ?_
  refine jy_iconst (pc' := 11) (v := 1) F dX11_both_10 (by decide) rfl ?_
  refine jy_calli (pc' := 14) (cells' := 0) (slots' := 0) (wr := [(s0, .inr (4, [.int 0, .int 0, .int 0, .int 0, .ref s1, .ref s2, .ref s3]))]) hA [0] [1] rfl rfl (by decide) (by decide) (jy_runV (As := [.int 1]) (b := h0) (q0 := 0) (ci := 10) (C := RX11) (T := TX11) (N := 15) (st := []) F hN (fun sz => c_X11_refuse l D k h0 0 (.long 0) (.long 1) (.ref t0) (.ref a2) (.ref s0) (.ref a4) (.int 0) (.ref a5) (.ref a6) (.ref a7) (.ref a8) (.ref a9) (.ref a10) (.int 0) 1 sz ) (jy_cV F g_c_X11_both_c_X11_refuse rfl hdX11_refuse (List.mem_of_getElem? (i := 9) rfl) (List.mem_of_getElem? (i := 17) rfl) (List.mem_of_getElem? (i := 15) rfl) (List.mem_of_getElem? (i := 16) rfl) rfl rfl ⟨by decide, by decide⟩) rfl rfl [0] rfl (by decide) rfl rfl (Nat.le_of_ble_eq_true rfl) dX11_both_11 ⟨by decide, by decide⟩) rfl rfl rfl (fun r_6 u_4 e_5 => ?_)
  subst e_5
  refine jy_widen (cells' := 0) (slots' := 0) (by decide) (by decide) ?_
  exact jy_iret (v := (-1)) F hr hlk () (rfl) [] rfl (by decide) dX11_both_14
abbrev cX11_bothAt : ByteArray := prog_1_method_34_code
def yX11_bothAt : MethodName := ⟨RX11, "bothAt", "(III)I"⟩
theorem hdX11_bothAt : yX11_bothAt.cls ≠ "java/lang/invoke/MethodHandle" ∧ yX11_bothAt.cls ≠ "java/lang/invoke/VarHandle" ∧ (parseMethodDescriptor yX11_bothAt.desc).map (fun d => d.parameters.length) = some 3 := by decide +kernel
theorem dX11_bothAt_0 : decode cX11_bothAt 0 = .ok (.aload_n 0, 1) := by decide +kernel
theorem dX11_bothAt_1 : decode cX11_bothAt 1 = .ok (.iload_n 1, 1) := by decide +kernel
theorem dX11_bothAt_2 : decode cX11_bothAt 2 = .ok (.iload_n 2, 1) := by decide +kernel
theorem dX11_bothAt_3 : decode cX11_bothAt 3 = .ok (.invokevirtual 219, 3) := by decide +kernel
theorem dX11_bothAt_6 : decode cX11_bothAt 6 = .ok (.ifCond .eq 7, 3) := by decide +kernel
theorem dX11_bothAt_13 : decode cX11_bothAt 13 = .ok (.aload_n 0, 1) := by decide +kernel
theorem dX11_bothAt_14 : decode cX11_bothAt 14 = .ok (.iconst 1, 1) := by decide +kernel
theorem dX11_bothAt_15 : decode cX11_bothAt 15 = .ok (.invokevirtual 110, 3) := by decide +kernel
theorem dX11_bothAt_18 : decode cX11_bothAt 18 = .ok (.ireturn, 1) := by decide +kernel
def ws_c_X11_bothAt : List Cond := .code yX11_bothAt cX11_bothAt 4 (some .int) :: ([.code ⟨"NestedChecker", "areTwo", "(II)Z"⟩ cX11_areTwo 3 (some .boolean), .fieldLink "NestedChecker" 26 "NestedChecker" "live" "LNestedChecker$Setting;", .code ⟨"NestedChecker$Setting", "has", "(I)Z"⟩ cX5_has 2 (some .boolean), .fieldLink "NestedChecker$Setting" 38 "NestedChecker$Setting" "automata" "I", .initialized "NestedChecker$Setting", .instanceMethod ⟨"NestedChecker$Setting", "has", "(I)Z"⟩, .selects "NestedChecker$Setting" ⟨"NestedChecker$Setting", "has", "(I)Z"⟩ ⟨"NestedChecker$Setting", "has", "(I)Z"⟩, .methodLink "NestedChecker" 163 ⟨"NestedChecker$Setting", "has", "(I)Z"⟩, .initialized "NestedChecker", .instanceMethod ⟨"NestedChecker", "areTwo", "(II)Z"⟩, .selects "NestedChecker" ⟨"NestedChecker", "areTwo", "(II)Z"⟩ ⟨"NestedChecker", "areTwo", "(II)Z"⟩, .methodLink "NestedChecker" 219 ⟨"NestedChecker", "areTwo", "(II)Z"⟩, .code ⟨"NestedChecker", "refuse", "(I)I"⟩ cX11_refuse 2 (some .int), .fieldLink "NestedChecker" 72 "NestedChecker" "lastStatus" "I", .instanceMethod ⟨"NestedChecker", "refuse", "(I)I"⟩, .selects "NestedChecker" ⟨"NestedChecker", "refuse", "(I)I"⟩ ⟨"NestedChecker", "refuse", "(I)I"⟩, .methodLink "NestedChecker" 110 ⟨"NestedChecker", "refuse", "(I)I"⟩] ++ wsX110 ++ wsX50)
set_option maxRecDepth 20000 in
theorem g_c_X11_bothAt_c_X11_areTwo : GoodIn ws_c_X11_bothAt ws_c_X11_areTwo := goodIn_r _ [1, 2, 3, 4, 5, 6, 7, 8, 18, 19, 20, 21, 22, 23, 24, 25, 26, 27, 28, 29, 30, 31, 32, 33, 34, 35, 36, 37, 38, 39] (by decide +kernel) (by decide +kernel)
set_option maxRecDepth 20000 in
theorem g_c_X11_bothAt_c_X11_refuse : GoodIn ws_c_X11_bothAt ws_c_X11_refuse := goodIn_r _ [13, 14, 18, 19, 20, 21, 22, 23, 24, 25, 26, 27, 28, 29, 30, 31, 32] (by decide +kernel) (by decide +kernel)
set_option maxHeartbeats 4000000 in
set_option maxRecDepth 100000 in
theorem c_X11_bothAt (l : Launch) (D : va_G) (k : jK) (h0 : Nat) (a2 : Nat) (a4 : Nat) (a5 : Nat) (a6 : Nat) (a7 : Nat) (a8 : Nat) (a9 : Nat) (a10 : Nat) (t0 : Nat) (s0 : Nat) (s1 : Nat) (s2 : Nat) (s3 : Nat) (i1 : Int32) (i2 : Int32) (i3 : Int32) (sz : Nat)  : Met l yX11_bothAt ws_c_X11_bothAt ({ frames := 2, cells := 0, slots := 0, locals := 43 }) (jy_P [.ref h0, .int i1, .int i2, .int i3] D vwCl (jT k) jW [(h0, .inr (10, [.int 0, .long 0, .long 1, .ref t0, .ref a2, .ref s0, .ref a4, .int 0, .ref a5, .ref a6, .ref a7, .ref a8, .ref a9, .ref a10, .int 0])), (s0, .inr (4, [.int 0, .int 0, .int 0, .int 0, .ref s1, .ref s2, .ref s3]))] sz) (va_Qi (fun (r : Int32) (u : Unit) => r = -1) (jy_B D vwCl (va_A [(h0, .inr (10, [.int 0, .long 0, .long 1, .ref t0, .ref a2, .ref s0, .ref a4, .int 0, .ref a5, .ref a6, .ref a7, .ref a8, .ref a9, .ref a10, .int 0])), (s0, .inr (4, [.int 0, .int 0, .int 0, .int 0, .ref s1, .ref s2, .ref s3]))] sz) (fun (u : Unit) => [])) (va_A [(h0, .inr (10, [.int 0, .long 0, .long 1, .ref t0, .ref a2, .ref s0, .ref a4, .int 0, .ref a5, .ref a6, .ref a7, .ref a8, .ref a9, .ref a10, .int 0])), (s0, .inr (4, [.int 0, .int 0, .int 0, .int 0, .ref s1, .ref s2, .ref s3]))] sz)) 0 0 (va_A [(h0, .inr (10, [.int 0, .long 0, .long 1, .ref t0, .ref a2, .ref s0, .ref a4, .int 0, .ref a5, .ref a6, .ref a7, .ref a8, .ref a9, .ref a10, .int 0])), (s0, .inr (4, [.int 0, .int 0, .int 0, .int 0, .ref s1, .ref s2, .ref s3]))] sz) := by
  refine jy_met (cc := cX11_bothAt) (maxL := 4) (ret := (some .int)) (lv := [(0, .ref h0), (1, .int i1), (2, .int i2), (3, .int i3)]) (by decide) rfl (Nat.le_of_ble_eq_true rfl) rfl ?_
  intro p e s m below meth c F hr hlk hnm hN hA
  have hiX11 : ∀ w ∈ u_ws RX11 TX11 15, w ∈ ws_c_X11_bothAt := fun w hw => List.mem_cons_of_mem _ (List.mem_append_left _ (List.mem_append_right _ hw))
  have hiX5 : ∀ w ∈ u_ws RX5 TX5 7, w ∈ ws_c_X11_bothAt := fun w hw => List.mem_cons_of_mem _ (List.mem_append_right _ hw)
  refine jy_aload_n (pc' := 1) F 0 dX11_bothAt_0 rfl rfl rfl ?_
  refine jy_iload_n (pc' := 2) F 1 dX11_bothAt_1 rfl rfl rfl ?_
  refine jy_iload_n (pc' := 3) F 2 dX11_bothAt_2 rfl rfl rfl ?_
  refine jy_callSi (pc' := 6) (jy_runV (As := [.int i1, .int i2]) (b := h0) (q0 := 0) (ci := 10) (C := RX11) (T := TX11) (N := 15) (st := []) F hN (fun sz => c_X11_areTwo l D k h0 a2 a4 a5 a6 a7 a8 a9 a10 t0 s0 s1 s2 s3 i1 i2 sz ) (jy_cV F g_c_X11_bothAt_c_X11_areTwo rfl hdX11_areTwo (List.mem_of_getElem? (i := 9) rfl) (List.mem_of_getElem? (i := 12) rfl) (List.mem_of_getElem? (i := 10) rfl) (List.mem_of_getElem? (i := 11) rfl) rfl rfl ⟨by decide, by decide⟩) rfl rfl [0, 1] rfl (by decide) rfl rfl (Nat.le_of_ble_eq_true rfl) dX11_bothAt_3 ⟨by decide, by decide⟩) rfl (fun r_1 e_2 => ?_)
  subst e_2
  refine jy_if_eq (pc' := 9) (tgt := 13) F dX11_bothAt_6 (by decide) rfl (fun _ => ?_) (fun h => absurd h (by decide))
  refine jy_aload_n (pc' := 14) F 0 dX11_bothAt_13 rfl rfl rfl ?_
  refine jy_iconst (pc' := 15) (v := 1) F dX11_bothAt_14 (by decide) rfl ?_
  refine jy_calli (pc' := 18) (cells' := 0) (slots' := 0) (wr := [(s0, .inr (4, [.int 0, .int 0, .int 0, .int 0, .ref s1, .ref s2, .ref s3]))]) hA [0] [1] rfl rfl (by decide) (by decide) (jy_runV (As := [.int 1]) (b := h0) (q0 := 0) (ci := 10) (C := RX11) (T := TX11) (N := 15) (st := []) F hN (fun sz => c_X11_refuse l D k h0 0 (.long 0) (.long 1) (.ref t0) (.ref a2) (.ref s0) (.ref a4) (.int 0) (.ref a5) (.ref a6) (.ref a7) (.ref a8) (.ref a9) (.ref a10) (.int 0) 1 sz ) (jy_cV F g_c_X11_bothAt_c_X11_refuse rfl hdX11_refuse (List.mem_of_getElem? (i := 9) rfl) (List.mem_of_getElem? (i := 17) rfl) (List.mem_of_getElem? (i := 15) rfl) (List.mem_of_getElem? (i := 16) rfl) rfl rfl ⟨by decide, by decide⟩) rfl rfl [0] rfl (by decide) rfl rfl (Nat.le_of_ble_eq_true rfl) dX11_bothAt_15 ⟨by decide, by decide⟩) rfl rfl rfl (fun r_6 u_4 e_5 => ?_)
  subst e_5
  refine jy_widen (cells' := 0) (slots' := 0) (by decide) (by decide) ?_
  exact jy_iret (v := (-1)) F hr hlk () (rfl) [] rfl (by decide) dX11_bothAt_18
abbrev cX11_parting : ByteArray := prog_1_method_35_code
def yX11_parting : MethodName := ⟨RX11, "parting", "(II)I"⟩
theorem hdX11_parting : yX11_parting.cls ≠ "java/lang/invoke/MethodHandle" ∧ yX11_parting.cls ≠ "java/lang/invoke/VarHandle" ∧ (parseMethodDescriptor yX11_parting.desc).map (fun d => d.parameters.length) = some 2 := by decide +kernel
theorem dX11_parting_0 : decode cX11_parting 0 = .ok (.aload_n 0, 1) := by decide +kernel
theorem dX11_parting_1 : decode cX11_parting 1 = .ok (.aload_n 0, 1) := by decide +kernel
theorem dX11_parting_2 : decode cX11_parting 2 = .ok (.iload_n 1, 1) := by decide +kernel
theorem dX11_parting_3 : decode cX11_parting 3 = .ok (.iload_n 2, 1) := by decide +kernel
theorem dX11_parting_4 : decode cX11_parting 4 = .ok (.invokevirtual 219, 3) := by decide +kernel
theorem dX11_parting_7 : decode cX11_parting 7 = .ok (.iload_n 2, 1) := by decide +kernel
theorem dX11_parting_8 : decode cX11_parting 8 = .ok (.invokevirtual 327, 3) := by decide +kernel
theorem dX11_parting_11 : decode cX11_parting 11 = .ok (.istore_n 3, 1) := by decide +kernel
theorem dX11_parting_12 : decode cX11_parting 12 = .ok (.iload_n 3, 1) := by decide +kernel
theorem dX11_parting_13 : decode cX11_parting 13 = .ok (.ifCond .eq 9, 3) := by decide +kernel
theorem dX11_parting_16 : decode cX11_parting 16 = .ok (.aload_n 0, 1) := by decide +kernel
theorem dX11_parting_17 : decode cX11_parting 17 = .ok (.iload_n 3, 1) := by decide +kernel
theorem dX11_parting_18 : decode cX11_parting 18 = .ok (.invokevirtual 110, 3) := by decide +kernel
theorem dX11_parting_21 : decode cX11_parting 21 = .ok (.ireturn, 1) := by decide +kernel
def ws_c_X11_parting : List Cond := .code yX11_parting cX11_parting 4 (some .int) :: ([.code ⟨"NestedChecker", "areTwo", "(II)Z"⟩ cX11_areTwo 3 (some .boolean), .fieldLink "NestedChecker" 26 "NestedChecker" "live" "LNestedChecker$Setting;", .code ⟨"NestedChecker$Setting", "has", "(I)Z"⟩ cX5_has 2 (some .boolean), .fieldLink "NestedChecker$Setting" 38 "NestedChecker$Setting" "automata" "I", .initialized "NestedChecker$Setting", .instanceMethod ⟨"NestedChecker$Setting", "has", "(I)Z"⟩, .selects "NestedChecker$Setting" ⟨"NestedChecker$Setting", "has", "(I)Z"⟩ ⟨"NestedChecker$Setting", "has", "(I)Z"⟩, .methodLink "NestedChecker" 163 ⟨"NestedChecker$Setting", "has", "(I)Z"⟩, .initialized "NestedChecker", .instanceMethod ⟨"NestedChecker", "areTwo", "(II)Z"⟩, .selects "NestedChecker" ⟨"NestedChecker", "areTwo", "(II)Z"⟩ ⟨"NestedChecker", "areTwo", "(II)Z"⟩, .methodLink "NestedChecker" 219 ⟨"NestedChecker", "areTwo", "(II)Z"⟩, .code ⟨"NestedChecker", "tableRefusal", "(ZI)I"⟩ cX11_tableRefusal 3 (some .int), .instanceMethod ⟨"NestedChecker", "tableRefusal", "(ZI)I"⟩, .selects "NestedChecker" ⟨"NestedChecker", "tableRefusal", "(ZI)I"⟩ ⟨"NestedChecker", "tableRefusal", "(ZI)I"⟩, .methodLink "NestedChecker" 327 ⟨"NestedChecker", "tableRefusal", "(ZI)I"⟩, .code ⟨"NestedChecker", "refuse", "(I)I"⟩ cX11_refuse 2 (some .int), .fieldLink "NestedChecker" 72 "NestedChecker" "lastStatus" "I", .instanceMethod ⟨"NestedChecker", "refuse", "(I)I"⟩, .selects "NestedChecker" ⟨"NestedChecker", "refuse", "(I)I"⟩ ⟨"NestedChecker", "refuse", "(I)I"⟩, .methodLink "NestedChecker" 110 ⟨"NestedChecker", "refuse", "(I)I"⟩] ++ wsX110 ++ wsX50)
set_option maxRecDepth 20000 in
theorem g_c_X11_parting_c_X11_areTwo : GoodIn ws_c_X11_parting ws_c_X11_areTwo := goodIn_r _ [1, 2, 3, 4, 5, 6, 7, 8, 22, 23, 24, 25, 26, 27, 28, 29, 30, 31, 32, 33, 34, 35, 36, 37, 38, 39, 40, 41, 42, 43] (by decide +kernel) (by decide +kernel)
set_option maxRecDepth 20000 in
theorem g_c_X11_parting_c_X11_tableRefusal : GoodIn ws_c_X11_parting ws_c_X11_tableRefusal := goodIn_r _ [13] (by decide +kernel) (by decide +kernel)
set_option maxRecDepth 20000 in
theorem g_c_X11_parting_c_X11_refuse : GoodIn ws_c_X11_parting ws_c_X11_refuse := goodIn_r _ [17, 18, 22, 23, 24, 25, 26, 27, 28, 29, 30, 31, 32, 33, 34, 35, 36] (by decide +kernel) (by decide +kernel)
set_option maxHeartbeats 4000000 in
set_option maxRecDepth 100000 in
theorem c_X11_parting (l : Launch) (D : va_G) (k : jK) (h0 : Nat) (a2 : Nat) (a4 : Nat) (a5 : Nat) (a6 : Nat) (a7 : Nat) (a8 : Nat) (a9 : Nat) (a10 : Nat) (t0 : Nat) (s0 : Nat) (s1 : Nat) (s2 : Nat) (s3 : Nat) (i1 : Int32) (i2 : Int32) (sz : Nat)  : Met l yX11_parting ws_c_X11_parting ({ frames := 2, cells := 0, slots := 0, locals := 43 }) (jy_P [.ref h0, .int i1, .int i2] D vwCl (jT k) jW [(h0, .inr (10, [.int 0, .long 0, .long 1, .ref t0, .ref a2, .ref s0, .ref a4, .int 0, .ref a5, .ref a6, .ref a7, .ref a8, .ref a9, .ref a10, .int 0])), (s0, .inr (4, [.int 0, .int 0, .int 0, .int 0, .ref s1, .ref s2, .ref s3]))] sz) (va_Qi (fun (r : Int32) (u : Unit) => r = -1) (jy_B D vwCl (va_A [(h0, .inr (10, [.int 0, .long 0, .long 1, .ref t0, .ref a2, .ref s0, .ref a4, .int 0, .ref a5, .ref a6, .ref a7, .ref a8, .ref a9, .ref a10, .int 0])), (s0, .inr (4, [.int 0, .int 0, .int 0, .int 0, .ref s1, .ref s2, .ref s3]))] sz) (fun (u : Unit) => [])) (va_A [(h0, .inr (10, [.int 0, .long 0, .long 1, .ref t0, .ref a2, .ref s0, .ref a4, .int 0, .ref a5, .ref a6, .ref a7, .ref a8, .ref a9, .ref a10, .int 0])), (s0, .inr (4, [.int 0, .int 0, .int 0, .int 0, .ref s1, .ref s2, .ref s3]))] sz)) 0 0 (va_A [(h0, .inr (10, [.int 0, .long 0, .long 1, .ref t0, .ref a2, .ref s0, .ref a4, .int 0, .ref a5, .ref a6, .ref a7, .ref a8, .ref a9, .ref a10, .int 0])), (s0, .inr (4, [.int 0, .int 0, .int 0, .int 0, .ref s1, .ref s2, .ref s3]))] sz) := by
  refine jy_met (cc := cX11_parting) (maxL := 4) (ret := (some .int)) (lv := [(0, .ref h0), (1, .int i1), (2, .int i2)]) (by decide) rfl (Nat.le_of_ble_eq_true rfl) rfl ?_
  intro p e s m below meth c F hr hlk hnm hN hA
  have hiX11 : ∀ w ∈ u_ws RX11 TX11 15, w ∈ ws_c_X11_parting := fun w hw => List.mem_cons_of_mem _ (List.mem_append_left _ (List.mem_append_right _ hw))
  have hiX5 : ∀ w ∈ u_ws RX5 TX5 7, w ∈ ws_c_X11_parting := fun w hw => List.mem_cons_of_mem _ (List.mem_append_right _ hw)
  refine jy_aload_n (pc' := 1) F 0 dX11_parting_0 rfl rfl rfl ?_
  refine jy_aload_n (pc' := 2) F 0 dX11_parting_1 rfl rfl rfl ?_
  refine jy_iload_n (pc' := 3) F 1 dX11_parting_2 rfl rfl rfl ?_
  refine jy_iload_n (pc' := 4) F 2 dX11_parting_3 rfl rfl rfl ?_
  refine jy_callSi (pc' := 7) (jy_runV (As := [.int i1, .int i2]) (b := h0) (q0 := 0) (ci := 10) (C := RX11) (T := TX11) (N := 15) (st := [.ref h0]) F hN (fun sz => c_X11_areTwo l D k h0 a2 a4 a5 a6 a7 a8 a9 a10 t0 s0 s1 s2 s3 i1 i2 sz ) (jy_cV F g_c_X11_parting_c_X11_areTwo rfl hdX11_areTwo (List.mem_of_getElem? (i := 9) rfl) (List.mem_of_getElem? (i := 12) rfl) (List.mem_of_getElem? (i := 10) rfl) (List.mem_of_getElem? (i := 11) rfl) rfl rfl ⟨by decide, by decide⟩) rfl rfl [0, 1] rfl (by decide) rfl rfl (Nat.le_of_ble_eq_true rfl) dX11_parting_4 ⟨by decide, by decide⟩) rfl (fun r_1 e_2 => ?_)
  subst e_2
  refine jy_iload_n (pc' := 8) F 2 dX11_parting_7 rfl rfl rfl ?_
  refine jy_callSi (pc' := 11) (jy_runV (As := [.int 0, .int i2]) (b := h0) (q0 := 0) (ci := 10) (C := RX11) (T := TX11) (N := 15) (st := []) F hN (fun sz => c_X11_tableRefusal l D k h0 a2 a4 a5 a6 a7 a8 a9 a10 t0 s0 i2 sz ) (jy_cV F g_c_X11_parting_c_X11_tableRefusal rfl hdX11_tableRefusal (List.mem_of_getElem? (i := 9) rfl) (List.mem_of_getElem? (i := 16) rfl) (List.mem_of_getElem? (i := 14) rfl) (List.mem_of_getElem? (i := 15) rfl) rfl rfl ⟨by decide, by decide⟩) rfl rfl [0] rfl (by decide) rfl rfl (Nat.le_of_ble_eq_true rfl) dX11_parting_8 ⟨by decide, by decide⟩) rfl (fun r_3 e_4 => ?_)
  subst e_4
  refine jy_istore_n (pc' := 12) (lv' := [(3, .int 1), (0, .ref h0), (1, .int i1), (2, .int i2)]) F dX11_parting_11 rfl (by decide) rfl rfl ?_
  refine jy_iload_n (pc' := 13) F 0 dX11_parting_12 rfl rfl rfl ?_
  refine jy_if_eq (pc' := 16) (tgt := 22) F dX11_parting_13 (by decide) rfl (fun h => absurd h (by decide)) (fun _ => ?_)
  refine jy_aload_n (pc' := 17) F 1 dX11_parting_16 rfl rfl rfl ?_
  refine jy_iload_n (pc' := 18) F 0 dX11_parting_17 rfl rfl rfl ?_
  refine jy_calli (pc' := 21) (cells' := 0) (slots' := 0) (wr := [(s0, .inr (4, [.int 0, .int 0, .int 0, .int 0, .ref s1, .ref s2, .ref s3]))]) hA [0] [1] rfl rfl (by decide) (by decide) (jy_runV (As := [.int 1]) (b := h0) (q0 := 0) (ci := 10) (C := RX11) (T := TX11) (N := 15) (st := []) F hN (fun sz => c_X11_refuse l D k h0 0 (.long 0) (.long 1) (.ref t0) (.ref a2) (.ref s0) (.ref a4) (.int 0) (.ref a5) (.ref a6) (.ref a7) (.ref a8) (.ref a9) (.ref a10) (.int 0) 1 sz ) (jy_cV F g_c_X11_parting_c_X11_refuse rfl hdX11_refuse (List.mem_of_getElem? (i := 9) rfl) (List.mem_of_getElem? (i := 21) rfl) (List.mem_of_getElem? (i := 19) rfl) (List.mem_of_getElem? (i := 20) rfl) rfl rfl ⟨by decide, by decide⟩) rfl rfl [0] rfl (by decide) rfl rfl (Nat.le_of_ble_eq_true rfl) dX11_parting_18 ⟨by decide, by decide⟩) rfl rfl rfl (fun r_8 u_6 e_7 => ?_)
  subst e_7
  refine jy_widen (cells' := 0) (slots' := 0) (by decide) (by decide) ?_
  exact jy_iret (v := (-1)) F hr hlk () (rfl) [] rfl (by decide) dX11_parting_21
abbrev cX11_partingAt : ByteArray := prog_1_method_36_code
def yX11_partingAt : MethodName := ⟨RX11, "partingAt", "(III)I"⟩
theorem hdX11_partingAt : yX11_partingAt.cls ≠ "java/lang/invoke/MethodHandle" ∧ yX11_partingAt.cls ≠ "java/lang/invoke/VarHandle" ∧ (parseMethodDescriptor yX11_partingAt.desc).map (fun d => d.parameters.length) = some 3 := by decide +kernel
theorem dX11_partingAt_0 : decode cX11_partingAt 0 = .ok (.aload_n 0, 1) := by decide +kernel
theorem dX11_partingAt_1 : decode cX11_partingAt 1 = .ok (.aload_n 0, 1) := by decide +kernel
theorem dX11_partingAt_2 : decode cX11_partingAt 2 = .ok (.iload_n 1, 1) := by decide +kernel
theorem dX11_partingAt_3 : decode cX11_partingAt 3 = .ok (.iload_n 2, 1) := by decide +kernel
theorem dX11_partingAt_4 : decode cX11_partingAt 4 = .ok (.invokevirtual 219, 3) := by decide +kernel
theorem dX11_partingAt_7 : decode cX11_partingAt 7 = .ok (.ifCond .eq 11, 3) := by decide +kernel
theorem dX11_partingAt_18 : decode cX11_partingAt 18 = .ok (.iconst 0, 1) := by decide +kernel
theorem dX11_partingAt_19 : decode cX11_partingAt 19 = .ok (.iload_n 2, 1) := by decide +kernel
theorem dX11_partingAt_20 : decode cX11_partingAt 20 = .ok (.invokevirtual 327, 3) := by decide +kernel
theorem dX11_partingAt_23 : decode cX11_partingAt 23 = .ok (.istore 4, 2) := by decide +kernel
theorem dX11_partingAt_25 : decode cX11_partingAt 25 = .ok (.iload 4, 2) := by decide +kernel
theorem dX11_partingAt_27 : decode cX11_partingAt 27 = .ok (.ifCond .eq 10, 3) := by decide +kernel
theorem dX11_partingAt_30 : decode cX11_partingAt 30 = .ok (.aload_n 0, 1) := by decide +kernel
theorem dX11_partingAt_31 : decode cX11_partingAt 31 = .ok (.iload 4, 2) := by decide +kernel
theorem dX11_partingAt_33 : decode cX11_partingAt 33 = .ok (.invokevirtual 110, 3) := by decide +kernel
theorem dX11_partingAt_36 : decode cX11_partingAt 36 = .ok (.ireturn, 1) := by decide +kernel
def ws_c_X11_partingAt : List Cond := .code yX11_partingAt cX11_partingAt 5 (some .int) :: ([.code ⟨"NestedChecker", "areTwo", "(II)Z"⟩ cX11_areTwo 3 (some .boolean), .fieldLink "NestedChecker" 26 "NestedChecker" "live" "LNestedChecker$Setting;", .code ⟨"NestedChecker$Setting", "has", "(I)Z"⟩ cX5_has 2 (some .boolean), .fieldLink "NestedChecker$Setting" 38 "NestedChecker$Setting" "automata" "I", .initialized "NestedChecker$Setting", .instanceMethod ⟨"NestedChecker$Setting", "has", "(I)Z"⟩, .selects "NestedChecker$Setting" ⟨"NestedChecker$Setting", "has", "(I)Z"⟩ ⟨"NestedChecker$Setting", "has", "(I)Z"⟩, .methodLink "NestedChecker" 163 ⟨"NestedChecker$Setting", "has", "(I)Z"⟩, .initialized "NestedChecker", .instanceMethod ⟨"NestedChecker", "areTwo", "(II)Z"⟩, .selects "NestedChecker" ⟨"NestedChecker", "areTwo", "(II)Z"⟩ ⟨"NestedChecker", "areTwo", "(II)Z"⟩, .methodLink "NestedChecker" 219 ⟨"NestedChecker", "areTwo", "(II)Z"⟩, .code ⟨"NestedChecker", "tableRefusal", "(ZI)I"⟩ cX11_tableRefusal 3 (some .int), .instanceMethod ⟨"NestedChecker", "tableRefusal", "(ZI)I"⟩, .selects "NestedChecker" ⟨"NestedChecker", "tableRefusal", "(ZI)I"⟩ ⟨"NestedChecker", "tableRefusal", "(ZI)I"⟩, .methodLink "NestedChecker" 327 ⟨"NestedChecker", "tableRefusal", "(ZI)I"⟩, .code ⟨"NestedChecker", "refuse", "(I)I"⟩ cX11_refuse 2 (some .int), .fieldLink "NestedChecker" 72 "NestedChecker" "lastStatus" "I", .instanceMethod ⟨"NestedChecker", "refuse", "(I)I"⟩, .selects "NestedChecker" ⟨"NestedChecker", "refuse", "(I)I"⟩ ⟨"NestedChecker", "refuse", "(I)I"⟩, .methodLink "NestedChecker" 110 ⟨"NestedChecker", "refuse", "(I)I"⟩] ++ wsX110 ++ wsX50)
set_option maxRecDepth 20000 in
theorem g_c_X11_partingAt_c_X11_areTwo : GoodIn ws_c_X11_partingAt ws_c_X11_areTwo := goodIn_r _ [1, 2, 3, 4, 5, 6, 7, 8, 22, 23, 24, 25, 26, 27, 28, 29, 30, 31, 32, 33, 34, 35, 36, 37, 38, 39, 40, 41, 42, 43] (by decide +kernel) (by decide +kernel)
set_option maxRecDepth 20000 in
theorem g_c_X11_partingAt_c_X11_tableRefusal : GoodIn ws_c_X11_partingAt ws_c_X11_tableRefusal := goodIn_r _ [13] (by decide +kernel) (by decide +kernel)
set_option maxRecDepth 20000 in
theorem g_c_X11_partingAt_c_X11_refuse : GoodIn ws_c_X11_partingAt ws_c_X11_refuse := goodIn_r _ [17, 18, 22, 23, 24, 25, 26, 27, 28, 29, 30, 31, 32, 33, 34, 35, 36] (by decide +kernel) (by decide +kernel)
set_option maxHeartbeats 4000000 in
set_option maxRecDepth 100000 in
theorem c_X11_partingAt (l : Launch) (D : va_G) (k : jK) (h0 : Nat) (a2 : Nat) (a4 : Nat) (a5 : Nat) (a6 : Nat) (a7 : Nat) (a8 : Nat) (a9 : Nat) (a10 : Nat) (t0 : Nat) (s0 : Nat) (s1 : Nat) (s2 : Nat) (s3 : Nat) (i1 : Int32) (i2 : Int32) (i3 : Int32) (sz : Nat)  : Met l yX11_partingAt ws_c_X11_partingAt ({ frames := 2, cells := 0, slots := 0, locals := 43 }) (jy_P [.ref h0, .int i1, .int i2, .int i3] D vwCl (jT k) jW [(h0, .inr (10, [.int 0, .long 0, .long 1, .ref t0, .ref a2, .ref s0, .ref a4, .int 0, .ref a5, .ref a6, .ref a7, .ref a8, .ref a9, .ref a10, .int 0])), (s0, .inr (4, [.int 0, .int 0, .int 0, .int 0, .ref s1, .ref s2, .ref s3]))] sz) (va_Qi (fun (r : Int32) (u : Unit) => r = -1) (jy_B D vwCl (va_A [(h0, .inr (10, [.int 0, .long 0, .long 1, .ref t0, .ref a2, .ref s0, .ref a4, .int 0, .ref a5, .ref a6, .ref a7, .ref a8, .ref a9, .ref a10, .int 0])), (s0, .inr (4, [.int 0, .int 0, .int 0, .int 0, .ref s1, .ref s2, .ref s3]))] sz) (fun (u : Unit) => [])) (va_A [(h0, .inr (10, [.int 0, .long 0, .long 1, .ref t0, .ref a2, .ref s0, .ref a4, .int 0, .ref a5, .ref a6, .ref a7, .ref a8, .ref a9, .ref a10, .int 0])), (s0, .inr (4, [.int 0, .int 0, .int 0, .int 0, .ref s1, .ref s2, .ref s3]))] sz)) 0 0 (va_A [(h0, .inr (10, [.int 0, .long 0, .long 1, .ref t0, .ref a2, .ref s0, .ref a4, .int 0, .ref a5, .ref a6, .ref a7, .ref a8, .ref a9, .ref a10, .int 0])), (s0, .inr (4, [.int 0, .int 0, .int 0, .int 0, .ref s1, .ref s2, .ref s3]))] sz) := by
  refine jy_met (cc := cX11_partingAt) (maxL := 5) (ret := (some .int)) (lv := [(0, .ref h0), (1, .int i1), (2, .int i2), (3, .int i3)]) (by decide) rfl (Nat.le_of_ble_eq_true rfl) rfl ?_
  intro p e s m below meth c F hr hlk hnm hN hA
  have hiX11 : ∀ w ∈ u_ws RX11 TX11 15, w ∈ ws_c_X11_partingAt := fun w hw => List.mem_cons_of_mem _ (List.mem_append_left _ (List.mem_append_right _ hw))
  have hiX5 : ∀ w ∈ u_ws RX5 TX5 7, w ∈ ws_c_X11_partingAt := fun w hw => List.mem_cons_of_mem _ (List.mem_append_right _ hw)
  refine jy_aload_n (pc' := 1) F 0 dX11_partingAt_0 rfl rfl rfl ?_
  refine jy_aload_n (pc' := 2) F 0 dX11_partingAt_1 rfl rfl rfl ?_
  refine jy_iload_n (pc' := 3) F 1 dX11_partingAt_2 rfl rfl rfl ?_
  refine jy_iload_n (pc' := 4) F 2 dX11_partingAt_3 rfl rfl rfl ?_
  refine jy_callSi (pc' := 7) (jy_runV (As := [.int i1, .int i2]) (b := h0) (q0 := 0) (ci := 10) (C := RX11) (T := TX11) (N := 15) (st := [.ref h0]) F hN (fun sz => c_X11_areTwo l D k h0 a2 a4 a5 a6 a7 a8 a9 a10 t0 s0 s1 s2 s3 i1 i2 sz ) (jy_cV F g_c_X11_partingAt_c_X11_areTwo rfl hdX11_areTwo (List.mem_of_getElem? (i := 9) rfl) (List.mem_of_getElem? (i := 12) rfl) (List.mem_of_getElem? (i := 10) rfl) (List.mem_of_getElem? (i := 11) rfl) rfl rfl ⟨by decide, by decide⟩) rfl rfl [0, 1] rfl (by decide) rfl rfl (Nat.le_of_ble_eq_true rfl) dX11_partingAt_4 ⟨by decide, by decide⟩) rfl (fun r_1 e_2 => ?_)
  subst e_2
  refine jy_if_eq (pc' := 10) (tgt := 18) F dX11_partingAt_7 (by decide) rfl (fun _ => ?_) (fun h => absurd h (by decide))
  refine jy_iconst (pc' := 19) (v := 0) F dX11_partingAt_18 (by decide) rfl ?_
  refine jy_iload_n (pc' := 20) F 2 dX11_partingAt_19 rfl rfl rfl ?_
  refine jy_callSi (pc' := 23) (jy_runV (As := [.int 0, .int i2]) (b := h0) (q0 := 0) (ci := 10) (C := RX11) (T := TX11) (N := 15) (st := []) F hN (fun sz => c_X11_tableRefusal l D k h0 a2 a4 a5 a6 a7 a8 a9 a10 t0 s0 i2 sz ) (jy_cV F g_c_X11_partingAt_c_X11_tableRefusal rfl hdX11_tableRefusal (List.mem_of_getElem? (i := 9) rfl) (List.mem_of_getElem? (i := 16) rfl) (List.mem_of_getElem? (i := 14) rfl) (List.mem_of_getElem? (i := 15) rfl) rfl rfl ⟨by decide, by decide⟩) rfl rfl [0] rfl (by decide) rfl rfl (Nat.le_of_ble_eq_true rfl) dX11_partingAt_20 ⟨by decide, by decide⟩) rfl (fun r_4 e_5 => ?_)
  subst e_5
  refine jy_istore (pc' := 25) (lv' := [(4, .int 1), (0, .ref h0), (1, .int i1), (2, .int i2), (3, .int i3)]) F dX11_partingAt_23 (by decide) rfl rfl ?_
  refine jy_iload (pc' := 27) F 0 dX11_partingAt_25 rfl rfl ?_
  refine jy_if_eq (pc' := 30) (tgt := 37) F dX11_partingAt_27 (by decide) rfl (fun h => absurd h (by decide)) (fun _ => ?_)
  refine jy_aload_n (pc' := 31) F 1 dX11_partingAt_30 rfl rfl rfl ?_
  refine jy_iload (pc' := 33) F 0 dX11_partingAt_31 rfl rfl ?_
  refine jy_calli (pc' := 36) (cells' := 0) (slots' := 0) (wr := [(s0, .inr (4, [.int 0, .int 0, .int 0, .int 0, .ref s1, .ref s2, .ref s3]))]) hA [0] [1] rfl rfl (by decide) (by decide) (jy_runV (As := [.int 1]) (b := h0) (q0 := 0) (ci := 10) (C := RX11) (T := TX11) (N := 15) (st := []) F hN (fun sz => c_X11_refuse l D k h0 0 (.long 0) (.long 1) (.ref t0) (.ref a2) (.ref s0) (.ref a4) (.int 0) (.ref a5) (.ref a6) (.ref a7) (.ref a8) (.ref a9) (.ref a10) (.int 0) 1 sz ) (jy_cV F g_c_X11_partingAt_c_X11_refuse rfl hdX11_refuse (List.mem_of_getElem? (i := 9) rfl) (List.mem_of_getElem? (i := 21) rfl) (List.mem_of_getElem? (i := 19) rfl) (List.mem_of_getElem? (i := 20) rfl) rfl rfl ⟨by decide, by decide⟩) rfl rfl [0] rfl (by decide) rfl rfl (Nat.le_of_ble_eq_true rfl) dX11_partingAt_33 ⟨by decide, by decide⟩) rfl rfl rfl (fun r_9 u_7 e_8 => ?_)
  subst e_8
  refine jy_widen (cells' := 0) (slots' := 0) (by decide) (by decide) ?_
  exact jy_iret (v := (-1)) F hr hlk () (rfl) [] rfl (by decide) dX11_partingAt_36
abbrev cX11_missing : ByteArray := prog_1_method_37_code
def yX11_missing : MethodName := ⟨RX11, "missing", "(I)I"⟩
theorem hdX11_missing : yX11_missing.cls ≠ "java/lang/invoke/MethodHandle" ∧ yX11_missing.cls ≠ "java/lang/invoke/VarHandle" ∧ (parseMethodDescriptor yX11_missing.desc).map (fun d => d.parameters.length) = some 1 := by decide +kernel
theorem dX11_missing_0 : decode cX11_missing 0 = .ok (.aload_n 0, 1) := by decide +kernel
theorem dX11_missing_1 : decode cX11_missing 1 = .ok (.aload_n 0, 1) := by decide +kernel
theorem dX11_missing_2 : decode cX11_missing 2 = .ok (.getfield 26, 3) := by decide +kernel
theorem dX11_missing_5 : decode cX11_missing 5 = .ok (.iload_n 1, 1) := by decide +kernel
theorem dX11_missing_6 : decode cX11_missing 6 = .ok (.invokevirtual 163, 3) := by decide +kernel
theorem dX11_missing_9 : decode cX11_missing 9 = .ok (.iload_n 1, 1) := by decide +kernel
theorem dX11_missing_10 : decode cX11_missing 10 = .ok (.invokevirtual 327, 3) := by decide +kernel
theorem dX11_missing_13 : decode cX11_missing 13 = .ok (.istore_n 2, 1) := by decide +kernel
theorem dX11_missing_14 : decode cX11_missing 14 = .ok (.iload_n 2, 1) := by decide +kernel
theorem dX11_missing_15 : decode cX11_missing 15 = .ok (.ifCond .eq 9, 3) := by decide +kernel
theorem dX11_missing_18 : decode cX11_missing 18 = .ok (.aload_n 0, 1) := by decide +kernel
theorem dX11_missing_19 : decode cX11_missing 19 = .ok (.iload_n 2, 1) := by decide +kernel
theorem dX11_missing_20 : decode cX11_missing 20 = .ok (.invokevirtual 110, 3) := by decide +kernel
theorem dX11_missing_23 : decode cX11_missing 23 = .ok (.ireturn, 1) := by decide +kernel
def ws_c_X11_missing : List Cond := .code yX11_missing cX11_missing 3 (some .int) :: ([.fieldLink "NestedChecker" 26 "NestedChecker" "live" "LNestedChecker$Setting;", .code ⟨"NestedChecker$Setting", "has", "(I)Z"⟩ cX5_has 2 (some .boolean), .fieldLink "NestedChecker$Setting" 38 "NestedChecker$Setting" "automata" "I", .initialized "NestedChecker$Setting", .instanceMethod ⟨"NestedChecker$Setting", "has", "(I)Z"⟩, .selects "NestedChecker$Setting" ⟨"NestedChecker$Setting", "has", "(I)Z"⟩ ⟨"NestedChecker$Setting", "has", "(I)Z"⟩, .methodLink "NestedChecker" 163 ⟨"NestedChecker$Setting", "has", "(I)Z"⟩, .code ⟨"NestedChecker", "tableRefusal", "(ZI)I"⟩ cX11_tableRefusal 3 (some .int), .initialized "NestedChecker", .instanceMethod ⟨"NestedChecker", "tableRefusal", "(ZI)I"⟩, .selects "NestedChecker" ⟨"NestedChecker", "tableRefusal", "(ZI)I"⟩ ⟨"NestedChecker", "tableRefusal", "(ZI)I"⟩, .methodLink "NestedChecker" 327 ⟨"NestedChecker", "tableRefusal", "(ZI)I"⟩, .code ⟨"NestedChecker", "refuse", "(I)I"⟩ cX11_refuse 2 (some .int), .fieldLink "NestedChecker" 72 "NestedChecker" "lastStatus" "I", .instanceMethod ⟨"NestedChecker", "refuse", "(I)I"⟩, .selects "NestedChecker" ⟨"NestedChecker", "refuse", "(I)I"⟩ ⟨"NestedChecker", "refuse", "(I)I"⟩, .methodLink "NestedChecker" 110 ⟨"NestedChecker", "refuse", "(I)I"⟩] ++ wsX110 ++ wsX50)
set_option maxRecDepth 20000 in
theorem g_c_X11_missing_c_X5_has : GoodIn ws_c_X11_missing ws_c_X5_has := goodIn_r _ [2, 3, 33, 34, 35, 36, 37, 38, 39] (by decide +kernel) (by decide +kernel)
set_option maxRecDepth 20000 in
theorem g_c_X11_missing_c_X11_tableRefusal : GoodIn ws_c_X11_missing ws_c_X11_tableRefusal := goodIn_r _ [8] (by decide +kernel) (by decide +kernel)
set_option maxRecDepth 20000 in
theorem g_c_X11_missing_c_X11_refuse : GoodIn ws_c_X11_missing ws_c_X11_refuse := goodIn_r _ [13, 14, 18, 19, 20, 21, 22, 23, 24, 25, 26, 27, 28, 29, 30, 31, 32] (by decide +kernel) (by decide +kernel)
set_option maxHeartbeats 4000000 in
set_option maxRecDepth 100000 in
theorem c_X11_missing (l : Launch) (D : va_G) (k : jK) (h0 : Nat) (a2 : Nat) (a4 : Nat) (a5 : Nat) (a6 : Nat) (a7 : Nat) (a8 : Nat) (a9 : Nat) (a10 : Nat) (t0 : Nat) (s0 : Nat) (s1 : Nat) (s2 : Nat) (s3 : Nat) (i1 : Int32) (sz : Nat)  : Met l yX11_missing ws_c_X11_missing ({ frames := 1, cells := 0, slots := 0, locals := 22 }) (jy_P [.ref h0, .int i1] D vwCl (jT k) jW [(h0, .inr (10, [.int 0, .long 0, .long 1, .ref t0, .ref a2, .ref s0, .ref a4, .int 0, .ref a5, .ref a6, .ref a7, .ref a8, .ref a9, .ref a10, .int 0])), (s0, .inr (4, [.int 0, .int 0, .int 0, .int 0, .ref s1, .ref s2, .ref s3]))] sz) (va_Qi (fun (r : Int32) (u : Unit) => r = -1) (jy_B D vwCl (va_A [(h0, .inr (10, [.int 0, .long 0, .long 1, .ref t0, .ref a2, .ref s0, .ref a4, .int 0, .ref a5, .ref a6, .ref a7, .ref a8, .ref a9, .ref a10, .int 0])), (s0, .inr (4, [.int 0, .int 0, .int 0, .int 0, .ref s1, .ref s2, .ref s3]))] sz) (fun (u : Unit) => [])) (va_A [(h0, .inr (10, [.int 0, .long 0, .long 1, .ref t0, .ref a2, .ref s0, .ref a4, .int 0, .ref a5, .ref a6, .ref a7, .ref a8, .ref a9, .ref a10, .int 0])), (s0, .inr (4, [.int 0, .int 0, .int 0, .int 0, .ref s1, .ref s2, .ref s3]))] sz)) 0 0 (va_A [(h0, .inr (10, [.int 0, .long 0, .long 1, .ref t0, .ref a2, .ref s0, .ref a4, .int 0, .ref a5, .ref a6, .ref a7, .ref a8, .ref a9, .ref a10, .int 0])), (s0, .inr (4, [.int 0, .int 0, .int 0, .int 0, .ref s1, .ref s2, .ref s3]))] sz) := by
  refine jy_met (cc := cX11_missing) (maxL := 3) (ret := (some .int)) (lv := [(0, .ref h0), (1, .int i1)]) (by decide) rfl (Nat.le_of_ble_eq_true rfl) rfl ?_
  intro p e s m below meth c F hr hlk hnm hN hA
  have hiX11 : ∀ w ∈ u_ws RX11 TX11 15, w ∈ ws_c_X11_missing := fun w hw => List.mem_cons_of_mem _ (List.mem_append_left _ (List.mem_append_right _ hw))
  have hiX5 : ∀ w ∈ u_ws RX5 TX5 7, w ∈ ws_c_X11_missing := fun w hw => List.mem_cons_of_mem _ (List.mem_append_right _ hw)
  refine jy_aload_n (pc' := 1) F 0 dX11_missing_0 rfl rfl rfl ?_
  refine jy_aload_n (pc' := 2) F 0 dX11_missing_1 rfl rfl rfl ?_
  refine jy_get (pc' := 5) (C := RX11) (T := TX11) (N := 15) (ci := 10) (v := .ref s0) F hiX11 0 rfl rfl 5 (by decide) dX11_missing_2 (List.mem_of_getElem? (i := 1) rfl) rfl rfl ?_
  refine jy_iload_n (pc' := 6) F 1 dX11_missing_5 rfl rfl rfl ?_
  refine jy_callSi (pc' := 9) (jy_runV (As := [.int i1]) (b := s0) (q0 := 1) (ci := 4) (C := RX5) (T := TX5) (N := 7) (st := [.ref h0]) F hN (fun sz => c_X5_has l D k s0 s1 s2 s3 i1 sz ) (jy_cV F g_c_X11_missing_c_X5_has rfl hdX5_has (List.mem_of_getElem? (i := 4) rfl) (List.mem_of_getElem? (i := 7) rfl) (List.mem_of_getElem? (i := 5) rfl) (List.mem_of_getElem? (i := 6) rfl) rfl rfl ⟨by decide, by decide⟩) rfl rfl [1] rfl (by decide) rfl rfl (Nat.le_of_ble_eq_true rfl) dX11_missing_6 ⟨by decide, by decide⟩) rfl (fun r_1 e_2 => ?_)
  subst e_2
  refine jy_iload_n (pc' := 10) F 1 dX11_missing_9 rfl rfl rfl ?_
  refine jy_callSi (pc' := 13) (jy_runV (As := [.int 0, .int i1]) (b := h0) (q0 := 0) (ci := 10) (C := RX11) (T := TX11) (N := 15) (st := []) F hN (fun sz => c_X11_tableRefusal l D k h0 a2 a4 a5 a6 a7 a8 a9 a10 t0 s0 i1 sz ) (jy_cV F g_c_X11_missing_c_X11_tableRefusal rfl hdX11_tableRefusal (List.mem_of_getElem? (i := 9) rfl) (List.mem_of_getElem? (i := 12) rfl) (List.mem_of_getElem? (i := 10) rfl) (List.mem_of_getElem? (i := 11) rfl) rfl rfl ⟨by decide, by decide⟩) rfl rfl [0] rfl (by decide) rfl rfl (Nat.le_of_ble_eq_true rfl) dX11_missing_10 ⟨by decide, by decide⟩) rfl (fun r_3 e_4 => ?_)
  subst e_4
  refine jy_istore_n (pc' := 14) (lv' := [(2, .int 1), (0, .ref h0), (1, .int i1)]) F dX11_missing_13 rfl (by decide) rfl rfl ?_
  refine jy_iload_n (pc' := 15) F 0 dX11_missing_14 rfl rfl rfl ?_
  refine jy_if_eq (pc' := 18) (tgt := 24) F dX11_missing_15 (by decide) rfl (fun h => absurd h (by decide)) (fun _ => ?_)
  refine jy_aload_n (pc' := 19) F 1 dX11_missing_18 rfl rfl rfl ?_
  refine jy_iload_n (pc' := 20) F 0 dX11_missing_19 rfl rfl rfl ?_
  refine jy_calli (pc' := 23) (cells' := 0) (slots' := 0) (wr := [(s0, .inr (4, [.int 0, .int 0, .int 0, .int 0, .ref s1, .ref s2, .ref s3]))]) hA [0] [1] rfl rfl (by decide) (by decide) (jy_runV (As := [.int 1]) (b := h0) (q0 := 0) (ci := 10) (C := RX11) (T := TX11) (N := 15) (st := []) F hN (fun sz => c_X11_refuse l D k h0 0 (.long 0) (.long 1) (.ref t0) (.ref a2) (.ref s0) (.ref a4) (.int 0) (.ref a5) (.ref a6) (.ref a7) (.ref a8) (.ref a9) (.ref a10) (.int 0) 1 sz ) (jy_cV F g_c_X11_missing_c_X11_refuse rfl hdX11_refuse (List.mem_of_getElem? (i := 9) rfl) (List.mem_of_getElem? (i := 17) rfl) (List.mem_of_getElem? (i := 15) rfl) (List.mem_of_getElem? (i := 16) rfl) rfl rfl ⟨by decide, by decide⟩) rfl rfl [0] rfl (by decide) rfl rfl (Nat.le_of_ble_eq_true rfl) dX11_missing_20 ⟨by decide, by decide⟩) rfl rfl rfl (fun r_8 u_6 e_7 => ?_)
  subst e_7
  refine jy_widen (cells' := 0) (slots' := 0) (by decide) (by decide) ?_
  exact jy_iret (v := (-1)) F hr hlk () (rfl) [] rfl (by decide) dX11_missing_23
abbrev cX11_missingAt : ByteArray := prog_1_method_38_code
def yX11_missingAt : MethodName := ⟨RX11, "missingAt", "(II)I"⟩
theorem hdX11_missingAt : yX11_missingAt.cls ≠ "java/lang/invoke/MethodHandle" ∧ yX11_missingAt.cls ≠ "java/lang/invoke/VarHandle" ∧ (parseMethodDescriptor yX11_missingAt.desc).map (fun d => d.parameters.length) = some 2 := by decide +kernel
theorem dX11_missingAt_0 : decode cX11_missingAt 0 = .ok (.aload_n 0, 1) := by decide +kernel
theorem dX11_missingAt_1 : decode cX11_missingAt 1 = .ok (.aload_n 0, 1) := by decide +kernel
theorem dX11_missingAt_2 : decode cX11_missingAt 2 = .ok (.getfield 26, 3) := by decide +kernel
theorem dX11_missingAt_5 : decode cX11_missingAt 5 = .ok (.iload_n 1, 1) := by decide +kernel
theorem dX11_missingAt_6 : decode cX11_missingAt 6 = .ok (.invokevirtual 163, 3) := by decide +kernel
theorem dX11_missingAt_9 : decode cX11_missingAt 9 = .ok (.ifCond .eq 11, 3) := by decide +kernel
theorem dX11_missingAt_20 : decode cX11_missingAt 20 = .ok (.iconst 0, 1) := by decide +kernel
theorem dX11_missingAt_21 : decode cX11_missingAt 21 = .ok (.iload_n 1, 1) := by decide +kernel
theorem dX11_missingAt_22 : decode cX11_missingAt 22 = .ok (.invokevirtual 327, 3) := by decide +kernel
theorem dX11_missingAt_25 : decode cX11_missingAt 25 = .ok (.istore_n 3, 1) := by decide +kernel
theorem dX11_missingAt_26 : decode cX11_missingAt 26 = .ok (.iload_n 3, 1) := by decide +kernel
theorem dX11_missingAt_27 : decode cX11_missingAt 27 = .ok (.ifCond .eq 9, 3) := by decide +kernel
theorem dX11_missingAt_30 : decode cX11_missingAt 30 = .ok (.aload_n 0, 1) := by decide +kernel
theorem dX11_missingAt_31 : decode cX11_missingAt 31 = .ok (.iload_n 3, 1) := by decide +kernel
theorem dX11_missingAt_32 : decode cX11_missingAt 32 = .ok (.invokevirtual 110, 3) := by decide +kernel
theorem dX11_missingAt_35 : decode cX11_missingAt 35 = .ok (.ireturn, 1) := by decide +kernel
def ws_c_X11_missingAt : List Cond := .code yX11_missingAt cX11_missingAt 4 (some .int) :: ([.fieldLink "NestedChecker" 26 "NestedChecker" "live" "LNestedChecker$Setting;", .code ⟨"NestedChecker$Setting", "has", "(I)Z"⟩ cX5_has 2 (some .boolean), .fieldLink "NestedChecker$Setting" 38 "NestedChecker$Setting" "automata" "I", .initialized "NestedChecker$Setting", .instanceMethod ⟨"NestedChecker$Setting", "has", "(I)Z"⟩, .selects "NestedChecker$Setting" ⟨"NestedChecker$Setting", "has", "(I)Z"⟩ ⟨"NestedChecker$Setting", "has", "(I)Z"⟩, .methodLink "NestedChecker" 163 ⟨"NestedChecker$Setting", "has", "(I)Z"⟩, .code ⟨"NestedChecker", "tableRefusal", "(ZI)I"⟩ cX11_tableRefusal 3 (some .int), .initialized "NestedChecker", .instanceMethod ⟨"NestedChecker", "tableRefusal", "(ZI)I"⟩, .selects "NestedChecker" ⟨"NestedChecker", "tableRefusal", "(ZI)I"⟩ ⟨"NestedChecker", "tableRefusal", "(ZI)I"⟩, .methodLink "NestedChecker" 327 ⟨"NestedChecker", "tableRefusal", "(ZI)I"⟩, .code ⟨"NestedChecker", "refuse", "(I)I"⟩ cX11_refuse 2 (some .int), .fieldLink "NestedChecker" 72 "NestedChecker" "lastStatus" "I", .instanceMethod ⟨"NestedChecker", "refuse", "(I)I"⟩, .selects "NestedChecker" ⟨"NestedChecker", "refuse", "(I)I"⟩ ⟨"NestedChecker", "refuse", "(I)I"⟩, .methodLink "NestedChecker" 110 ⟨"NestedChecker", "refuse", "(I)I"⟩] ++ wsX110 ++ wsX50)
set_option maxRecDepth 20000 in
theorem g_c_X11_missingAt_c_X5_has : GoodIn ws_c_X11_missingAt ws_c_X5_has := goodIn_r _ [2, 3, 33, 34, 35, 36, 37, 38, 39] (by decide +kernel) (by decide +kernel)
set_option maxRecDepth 20000 in
theorem g_c_X11_missingAt_c_X11_tableRefusal : GoodIn ws_c_X11_missingAt ws_c_X11_tableRefusal := goodIn_r _ [8] (by decide +kernel) (by decide +kernel)
set_option maxRecDepth 20000 in
theorem g_c_X11_missingAt_c_X11_refuse : GoodIn ws_c_X11_missingAt ws_c_X11_refuse := goodIn_r _ [13, 14, 18, 19, 20, 21, 22, 23, 24, 25, 26, 27, 28, 29, 30, 31, 32] (by decide +kernel) (by decide +kernel)
set_option maxHeartbeats 4000000 in
set_option maxRecDepth 100000 in
theorem c_X11_missingAt (l : Launch) (D : va_G) (k : jK) (h0 : Nat) (a2 : Nat) (a4 : Nat) (a5 : Nat) (a6 : Nat) (a7 : Nat) (a8 : Nat) (a9 : Nat) (a10 : Nat) (t0 : Nat) (s0 : Nat) (s1 : Nat) (s2 : Nat) (s3 : Nat) (i1 : Int32) (i2 : Int32) (sz : Nat)  : Met l yX11_missingAt ws_c_X11_missingAt ({ frames := 1, cells := 0, slots := 0, locals := 22 }) (jy_P [.ref h0, .int i1, .int i2] D vwCl (jT k) jW [(h0, .inr (10, [.int 0, .long 0, .long 1, .ref t0, .ref a2, .ref s0, .ref a4, .int 0, .ref a5, .ref a6, .ref a7, .ref a8, .ref a9, .ref a10, .int 0])), (s0, .inr (4, [.int 0, .int 0, .int 0, .int 0, .ref s1, .ref s2, .ref s3]))] sz) (va_Qi (fun (r : Int32) (u : Unit) => r = -1) (jy_B D vwCl (va_A [(h0, .inr (10, [.int 0, .long 0, .long 1, .ref t0, .ref a2, .ref s0, .ref a4, .int 0, .ref a5, .ref a6, .ref a7, .ref a8, .ref a9, .ref a10, .int 0])), (s0, .inr (4, [.int 0, .int 0, .int 0, .int 0, .ref s1, .ref s2, .ref s3]))] sz) (fun (u : Unit) => [])) (va_A [(h0, .inr (10, [.int 0, .long 0, .long 1, .ref t0, .ref a2, .ref s0, .ref a4, .int 0, .ref a5, .ref a6, .ref a7, .ref a8, .ref a9, .ref a10, .int 0])), (s0, .inr (4, [.int 0, .int 0, .int 0, .int 0, .ref s1, .ref s2, .ref s3]))] sz)) 0 0 (va_A [(h0, .inr (10, [.int 0, .long 0, .long 1, .ref t0, .ref a2, .ref s0, .ref a4, .int 0, .ref a5, .ref a6, .ref a7, .ref a8, .ref a9, .ref a10, .int 0])), (s0, .inr (4, [.int 0, .int 0, .int 0, .int 0, .ref s1, .ref s2, .ref s3]))] sz) := by
  refine jy_met (cc := cX11_missingAt) (maxL := 4) (ret := (some .int)) (lv := [(0, .ref h0), (1, .int i1), (2, .int i2)]) (by decide) rfl (Nat.le_of_ble_eq_true rfl) rfl ?_
  intro p e s m below meth c F hr hlk hnm hN hA
  have hiX11 : ∀ w ∈ u_ws RX11 TX11 15, w ∈ ws_c_X11_missingAt := fun w hw => List.mem_cons_of_mem _ (List.mem_append_left _ (List.mem_append_right _ hw))
  have hiX5 : ∀ w ∈ u_ws RX5 TX5 7, w ∈ ws_c_X11_missingAt := fun w hw => List.mem_cons_of_mem _ (List.mem_append_right _ hw)
  refine jy_aload_n (pc' := 1) F 0 dX11_missingAt_0 rfl rfl rfl ?_
  refine jy_aload_n (pc' := 2) F 0 dX11_missingAt_1 rfl rfl rfl ?_
  refine jy_get (pc' := 5) (C := RX11) (T := TX11) (N := 15) (ci := 10) (v := .ref s0) F hiX11 0 rfl rfl 5 (by decide) dX11_missingAt_2 (List.mem_of_getElem? (i := 1) rfl) rfl rfl ?_
  refine jy_iload_n (pc' := 6) F 1 dX11_missingAt_5 rfl rfl rfl ?_
  refine jy_callSi (pc' := 9) (jy_runV (As := [.int i1]) (b := s0) (q0 := 1) (ci := 4) (C := RX5) (T := TX5) (N := 7) (st := [.ref h0]) F hN (fun sz => c_X5_has l D k s0 s1 s2 s3 i1 sz ) (jy_cV F g_c_X11_missingAt_c_X5_has rfl hdX5_has (List.mem_of_getElem? (i := 4) rfl) (List.mem_of_getElem? (i := 7) rfl) (List.mem_of_getElem? (i := 5) rfl) (List.mem_of_getElem? (i := 6) rfl) rfl rfl ⟨by decide, by decide⟩) rfl rfl [1] rfl (by decide) rfl rfl (Nat.le_of_ble_eq_true rfl) dX11_missingAt_6 ⟨by decide, by decide⟩) rfl (fun r_1 e_2 => ?_)
  subst e_2
  refine jy_if_eq (pc' := 12) (tgt := 20) F dX11_missingAt_9 (by decide) rfl (fun _ => ?_) (fun h => absurd h (by decide))
  refine jy_iconst (pc' := 21) (v := 0) F dX11_missingAt_20 (by decide) rfl ?_
  refine jy_iload_n (pc' := 22) F 1 dX11_missingAt_21 rfl rfl rfl ?_
  refine jy_callSi (pc' := 25) (jy_runV (As := [.int 0, .int i1]) (b := h0) (q0 := 0) (ci := 10) (C := RX11) (T := TX11) (N := 15) (st := []) F hN (fun sz => c_X11_tableRefusal l D k h0 a2 a4 a5 a6 a7 a8 a9 a10 t0 s0 i1 sz ) (jy_cV F g_c_X11_missingAt_c_X11_tableRefusal rfl hdX11_tableRefusal (List.mem_of_getElem? (i := 9) rfl) (List.mem_of_getElem? (i := 12) rfl) (List.mem_of_getElem? (i := 10) rfl) (List.mem_of_getElem? (i := 11) rfl) rfl rfl ⟨by decide, by decide⟩) rfl rfl [0] rfl (by decide) rfl rfl (Nat.le_of_ble_eq_true rfl) dX11_missingAt_22 ⟨by decide, by decide⟩) rfl (fun r_4 e_5 => ?_)
  subst e_5
  refine jy_istore_n (pc' := 26) (lv' := [(3, .int 1), (0, .ref h0), (1, .int i1), (2, .int i2)]) F dX11_missingAt_25 rfl (by decide) rfl rfl ?_
  refine jy_iload_n (pc' := 27) F 0 dX11_missingAt_26 rfl rfl rfl ?_
  refine jy_if_eq (pc' := 30) (tgt := 36) F dX11_missingAt_27 (by decide) rfl (fun h => absurd h (by decide)) (fun _ => ?_)
  refine jy_aload_n (pc' := 31) F 1 dX11_missingAt_30 rfl rfl rfl ?_
  refine jy_iload_n (pc' := 32) F 0 dX11_missingAt_31 rfl rfl rfl ?_
  refine jy_calli (pc' := 35) (cells' := 0) (slots' := 0) (wr := [(s0, .inr (4, [.int 0, .int 0, .int 0, .int 0, .ref s1, .ref s2, .ref s3]))]) hA [0] [1] rfl rfl (by decide) (by decide) (jy_runV (As := [.int 1]) (b := h0) (q0 := 0) (ci := 10) (C := RX11) (T := TX11) (N := 15) (st := []) F hN (fun sz => c_X11_refuse l D k h0 0 (.long 0) (.long 1) (.ref t0) (.ref a2) (.ref s0) (.ref a4) (.int 0) (.ref a5) (.ref a6) (.ref a7) (.ref a8) (.ref a9) (.ref a10) (.int 0) 1 sz ) (jy_cV F g_c_X11_missingAt_c_X11_refuse rfl hdX11_refuse (List.mem_of_getElem? (i := 9) rfl) (List.mem_of_getElem? (i := 17) rfl) (List.mem_of_getElem? (i := 15) rfl) (List.mem_of_getElem? (i := 16) rfl) rfl rfl ⟨by decide, by decide⟩) rfl rfl [0] rfl (by decide) rfl rfl (Nat.le_of_ble_eq_true rfl) dX11_missingAt_32 ⟨by decide, by decide⟩) rfl rfl rfl (fun r_9 u_7 e_8 => ?_)
  subst e_8
  refine jy_widen (cells' := 0) (slots' := 0) (by decide) (by decide) ?_
  exact jy_iret (v := (-1)) F hr hlk () (rfl) [] rfl (by decide) dX11_missingAt_35
abbrev cX11_includes : ByteArray := prog_1_method_39_code
def yX11_includes : MethodName := ⟨RX11, "includes", "(II)I"⟩
theorem hdX11_includes : yX11_includes.cls ≠ "java/lang/invoke/MethodHandle" ∧ yX11_includes.cls ≠ "java/lang/invoke/VarHandle" ∧ (parseMethodDescriptor yX11_includes.desc).map (fun d => d.parameters.length) = some 2 := by decide +kernel
theorem dX11_includes_0 : decode cX11_includes 0 = .ok (.aload_n 0, 1) := by decide +kernel
theorem dX11_includes_1 : decode cX11_includes 1 = .ok (.aload_n 0, 1) := by decide +kernel
theorem dX11_includes_2 : decode cX11_includes 2 = .ok (.iload_n 1, 1) := by decide +kernel
theorem dX11_includes_3 : decode cX11_includes 3 = .ok (.iload_n 2, 1) := by decide +kernel
theorem dX11_includes_4 : decode cX11_includes 4 = .ok (.invokevirtual 219, 3) := by decide +kernel
theorem dX11_includes_7 : decode cX11_includes 7 = .ok (.iload_n 2, 1) := by decide +kernel
theorem dX11_includes_8 : decode cX11_includes 8 = .ok (.invokevirtual 327, 3) := by decide +kernel
theorem dX11_includes_11 : decode cX11_includes 11 = .ok (.istore_n 3, 1) := by decide +kernel
theorem dX11_includes_12 : decode cX11_includes 12 = .ok (.iload_n 3, 1) := by decide +kernel
theorem dX11_includes_13 : decode cX11_includes 13 = .ok (.ifCond .eq 9, 3) := by decide +kernel
theorem dX11_includes_16 : decode cX11_includes 16 = .ok (.aload_n 0, 1) := by decide +kernel
theorem dX11_includes_17 : decode cX11_includes 17 = .ok (.iload_n 3, 1) := by decide +kernel
theorem dX11_includes_18 : decode cX11_includes 18 = .ok (.invokevirtual 110, 3) := by decide +kernel
theorem dX11_includes_21 : decode cX11_includes 21 = .ok (.ireturn, 1) := by decide +kernel
def ws_c_X11_includes : List Cond := .code yX11_includes cX11_includes 5 (some .int) :: ([.code ⟨"NestedChecker", "areTwo", "(II)Z"⟩ cX11_areTwo 3 (some .boolean), .fieldLink "NestedChecker" 26 "NestedChecker" "live" "LNestedChecker$Setting;", .code ⟨"NestedChecker$Setting", "has", "(I)Z"⟩ cX5_has 2 (some .boolean), .fieldLink "NestedChecker$Setting" 38 "NestedChecker$Setting" "automata" "I", .initialized "NestedChecker$Setting", .instanceMethod ⟨"NestedChecker$Setting", "has", "(I)Z"⟩, .selects "NestedChecker$Setting" ⟨"NestedChecker$Setting", "has", "(I)Z"⟩ ⟨"NestedChecker$Setting", "has", "(I)Z"⟩, .methodLink "NestedChecker" 163 ⟨"NestedChecker$Setting", "has", "(I)Z"⟩, .initialized "NestedChecker", .instanceMethod ⟨"NestedChecker", "areTwo", "(II)Z"⟩, .selects "NestedChecker" ⟨"NestedChecker", "areTwo", "(II)Z"⟩ ⟨"NestedChecker", "areTwo", "(II)Z"⟩, .methodLink "NestedChecker" 219 ⟨"NestedChecker", "areTwo", "(II)Z"⟩, .code ⟨"NestedChecker", "tableRefusal", "(ZI)I"⟩ cX11_tableRefusal 3 (some .int), .instanceMethod ⟨"NestedChecker", "tableRefusal", "(ZI)I"⟩, .selects "NestedChecker" ⟨"NestedChecker", "tableRefusal", "(ZI)I"⟩ ⟨"NestedChecker", "tableRefusal", "(ZI)I"⟩, .methodLink "NestedChecker" 327 ⟨"NestedChecker", "tableRefusal", "(ZI)I"⟩, .code ⟨"NestedChecker", "refuse", "(I)I"⟩ cX11_refuse 2 (some .int), .fieldLink "NestedChecker" 72 "NestedChecker" "lastStatus" "I", .instanceMethod ⟨"NestedChecker", "refuse", "(I)I"⟩, .selects "NestedChecker" ⟨"NestedChecker", "refuse", "(I)I"⟩ ⟨"NestedChecker", "refuse", "(I)I"⟩, .methodLink "NestedChecker" 110 ⟨"NestedChecker", "refuse", "(I)I"⟩] ++ wsX110 ++ wsX50)
set_option maxRecDepth 20000 in
theorem g_c_X11_includes_c_X11_areTwo : GoodIn ws_c_X11_includes ws_c_X11_areTwo := goodIn_r _ [1, 2, 3, 4, 5, 6, 7, 8, 22, 23, 24, 25, 26, 27, 28, 29, 30, 31, 32, 33, 34, 35, 36, 37, 38, 39, 40, 41, 42, 43] (by decide +kernel) (by decide +kernel)
set_option maxRecDepth 20000 in
theorem g_c_X11_includes_c_X11_tableRefusal : GoodIn ws_c_X11_includes ws_c_X11_tableRefusal := goodIn_r _ [13] (by decide +kernel) (by decide +kernel)
set_option maxRecDepth 20000 in
theorem g_c_X11_includes_c_X11_refuse : GoodIn ws_c_X11_includes ws_c_X11_refuse := goodIn_r _ [17, 18, 22, 23, 24, 25, 26, 27, 28, 29, 30, 31, 32, 33, 34, 35, 36] (by decide +kernel) (by decide +kernel)
set_option maxHeartbeats 4000000 in
set_option maxRecDepth 100000 in
theorem c_X11_includes (l : Launch) (D : va_G) (k : jK) (h0 : Nat) (a2 : Nat) (a4 : Nat) (a5 : Nat) (a6 : Nat) (a7 : Nat) (a8 : Nat) (a9 : Nat) (a10 : Nat) (t0 : Nat) (s0 : Nat) (s1 : Nat) (s2 : Nat) (s3 : Nat) (i1 : Int32) (i2 : Int32) (sz : Nat)  : Met l yX11_includes ws_c_X11_includes ({ frames := 2, cells := 0, slots := 0, locals := 43 }) (jy_P [.ref h0, .int i1, .int i2] D vwCl (jT k) jW [(h0, .inr (10, [.int 0, .long 0, .long 1, .ref t0, .ref a2, .ref s0, .ref a4, .int 0, .ref a5, .ref a6, .ref a7, .ref a8, .ref a9, .ref a10, .int 0])), (s0, .inr (4, [.int 0, .int 0, .int 0, .int 0, .ref s1, .ref s2, .ref s3]))] sz) (va_Qi (fun (r : Int32) (u : Unit) => r = -1) (jy_B D vwCl (va_A [(h0, .inr (10, [.int 0, .long 0, .long 1, .ref t0, .ref a2, .ref s0, .ref a4, .int 0, .ref a5, .ref a6, .ref a7, .ref a8, .ref a9, .ref a10, .int 0])), (s0, .inr (4, [.int 0, .int 0, .int 0, .int 0, .ref s1, .ref s2, .ref s3]))] sz) (fun (u : Unit) => [])) (va_A [(h0, .inr (10, [.int 0, .long 0, .long 1, .ref t0, .ref a2, .ref s0, .ref a4, .int 0, .ref a5, .ref a6, .ref a7, .ref a8, .ref a9, .ref a10, .int 0])), (s0, .inr (4, [.int 0, .int 0, .int 0, .int 0, .ref s1, .ref s2, .ref s3]))] sz)) 0 0 (va_A [(h0, .inr (10, [.int 0, .long 0, .long 1, .ref t0, .ref a2, .ref s0, .ref a4, .int 0, .ref a5, .ref a6, .ref a7, .ref a8, .ref a9, .ref a10, .int 0])), (s0, .inr (4, [.int 0, .int 0, .int 0, .int 0, .ref s1, .ref s2, .ref s3]))] sz) := by
  refine jy_met (cc := cX11_includes) (maxL := 5) (ret := (some .int)) (lv := [(0, .ref h0), (1, .int i1), (2, .int i2)]) (by decide) rfl (Nat.le_of_ble_eq_true rfl) rfl ?_
  intro p e s m below meth c F hr hlk hnm hN hA
  have hiX11 : ∀ w ∈ u_ws RX11 TX11 15, w ∈ ws_c_X11_includes := fun w hw => List.mem_cons_of_mem _ (List.mem_append_left _ (List.mem_append_right _ hw))
  have hiX5 : ∀ w ∈ u_ws RX5 TX5 7, w ∈ ws_c_X11_includes := fun w hw => List.mem_cons_of_mem _ (List.mem_append_right _ hw)
  refine jy_aload_n (pc' := 1) F 0 dX11_includes_0 rfl rfl rfl ?_
  refine jy_aload_n (pc' := 2) F 0 dX11_includes_1 rfl rfl rfl ?_
  refine jy_iload_n (pc' := 3) F 1 dX11_includes_2 rfl rfl rfl ?_
  refine jy_iload_n (pc' := 4) F 2 dX11_includes_3 rfl rfl rfl ?_
  refine jy_callSi (pc' := 7) (jy_runV (As := [.int i1, .int i2]) (b := h0) (q0 := 0) (ci := 10) (C := RX11) (T := TX11) (N := 15) (st := [.ref h0]) F hN (fun sz => c_X11_areTwo l D k h0 a2 a4 a5 a6 a7 a8 a9 a10 t0 s0 s1 s2 s3 i1 i2 sz ) (jy_cV F g_c_X11_includes_c_X11_areTwo rfl hdX11_areTwo (List.mem_of_getElem? (i := 9) rfl) (List.mem_of_getElem? (i := 12) rfl) (List.mem_of_getElem? (i := 10) rfl) (List.mem_of_getElem? (i := 11) rfl) rfl rfl ⟨by decide, by decide⟩) rfl rfl [0, 1] rfl (by decide) rfl rfl (Nat.le_of_ble_eq_true rfl) dX11_includes_4 ⟨by decide, by decide⟩) rfl (fun r_1 e_2 => ?_)
  subst e_2
  refine jy_iload_n (pc' := 8) F 2 dX11_includes_7 rfl rfl rfl ?_
  refine jy_callSi (pc' := 11) (jy_runV (As := [.int 0, .int i2]) (b := h0) (q0 := 0) (ci := 10) (C := RX11) (T := TX11) (N := 15) (st := []) F hN (fun sz => c_X11_tableRefusal l D k h0 a2 a4 a5 a6 a7 a8 a9 a10 t0 s0 i2 sz ) (jy_cV F g_c_X11_includes_c_X11_tableRefusal rfl hdX11_tableRefusal (List.mem_of_getElem? (i := 9) rfl) (List.mem_of_getElem? (i := 16) rfl) (List.mem_of_getElem? (i := 14) rfl) (List.mem_of_getElem? (i := 15) rfl) rfl rfl ⟨by decide, by decide⟩) rfl rfl [0] rfl (by decide) rfl rfl (Nat.le_of_ble_eq_true rfl) dX11_includes_8 ⟨by decide, by decide⟩) rfl (fun r_3 e_4 => ?_)
  subst e_4
  refine jy_istore_n (pc' := 12) (lv' := [(3, .int 1), (0, .ref h0), (1, .int i1), (2, .int i2)]) F dX11_includes_11 rfl (by decide) rfl rfl ?_
  refine jy_iload_n (pc' := 13) F 0 dX11_includes_12 rfl rfl rfl ?_
  refine jy_if_eq (pc' := 16) (tgt := 22) F dX11_includes_13 (by decide) rfl (fun h => absurd h (by decide)) (fun _ => ?_)
  refine jy_aload_n (pc' := 17) F 1 dX11_includes_16 rfl rfl rfl ?_
  refine jy_iload_n (pc' := 18) F 0 dX11_includes_17 rfl rfl rfl ?_
  refine jy_calli (pc' := 21) (cells' := 0) (slots' := 0) (wr := [(s0, .inr (4, [.int 0, .int 0, .int 0, .int 0, .ref s1, .ref s2, .ref s3]))]) hA [0] [1] rfl rfl (by decide) (by decide) (jy_runV (As := [.int 1]) (b := h0) (q0 := 0) (ci := 10) (C := RX11) (T := TX11) (N := 15) (st := []) F hN (fun sz => c_X11_refuse l D k h0 0 (.long 0) (.long 1) (.ref t0) (.ref a2) (.ref s0) (.ref a4) (.int 0) (.ref a5) (.ref a6) (.ref a7) (.ref a8) (.ref a9) (.ref a10) (.int 0) 1 sz ) (jy_cV F g_c_X11_includes_c_X11_refuse rfl hdX11_refuse (List.mem_of_getElem? (i := 9) rfl) (List.mem_of_getElem? (i := 21) rfl) (List.mem_of_getElem? (i := 19) rfl) (List.mem_of_getElem? (i := 20) rfl) rfl rfl ⟨by decide, by decide⟩) rfl rfl [0] rfl (by decide) rfl rfl (Nat.le_of_ble_eq_true rfl) dX11_includes_18 ⟨by decide, by decide⟩) rfl rfl rfl (fun r_8 u_6 e_7 => ?_)
  subst e_7
  refine jy_widen (cells' := 0) (slots' := 0) (by decide) (by decide) ?_
  exact jy_iret (v := (-1)) F hr hlk () (rfl) [] rfl (by decide) dX11_includes_21
abbrev cX11_equal : ByteArray := prog_1_method_40_code
def yX11_equal : MethodName := ⟨RX11, "equal", "(II)I"⟩
theorem hdX11_equal : yX11_equal.cls ≠ "java/lang/invoke/MethodHandle" ∧ yX11_equal.cls ≠ "java/lang/invoke/VarHandle" ∧ (parseMethodDescriptor yX11_equal.desc).map (fun d => d.parameters.length) = some 2 := by decide +kernel
theorem dX11_equal_0 : decode cX11_equal 0 = .ok (.aload_n 0, 1) := by decide +kernel
theorem dX11_equal_1 : decode cX11_equal 1 = .ok (.aload_n 0, 1) := by decide +kernel
theorem dX11_equal_2 : decode cX11_equal 2 = .ok (.iload_n 1, 1) := by decide +kernel
theorem dX11_equal_3 : decode cX11_equal 3 = .ok (.iload_n 2, 1) := by decide +kernel
theorem dX11_equal_4 : decode cX11_equal 4 = .ok (.invokevirtual 219, 3) := by decide +kernel
theorem dX11_equal_7 : decode cX11_equal 7 = .ok (.iload_n 2, 1) := by decide +kernel
theorem dX11_equal_8 : decode cX11_equal 8 = .ok (.invokevirtual 327, 3) := by decide +kernel
theorem dX11_equal_11 : decode cX11_equal 11 = .ok (.istore_n 3, 1) := by decide +kernel
theorem dX11_equal_12 : decode cX11_equal 12 = .ok (.iload_n 3, 1) := by decide +kernel
theorem dX11_equal_13 : decode cX11_equal 13 = .ok (.ifCond .ne 10, 3) := by decide +kernel
theorem dX11_equal_23 : decode cX11_equal 23 = .ok (.iload_n 3, 1) := by decide +kernel
theorem dX11_equal_24 : decode cX11_equal 24 = .ok (.ifCond .eq 9, 3) := by decide +kernel
theorem dX11_equal_27 : decode cX11_equal 27 = .ok (.aload_n 0, 1) := by decide +kernel
theorem dX11_equal_28 : decode cX11_equal 28 = .ok (.iload_n 3, 1) := by decide +kernel
theorem dX11_equal_29 : decode cX11_equal 29 = .ok (.invokevirtual 110, 3) := by decide +kernel
theorem dX11_equal_32 : decode cX11_equal 32 = .ok (.ireturn, 1) := by decide +kernel
def ws_c_X11_equal : List Cond := .code yX11_equal cX11_equal 6 (some .int) :: ([.code ⟨"NestedChecker", "areTwo", "(II)Z"⟩ cX11_areTwo 3 (some .boolean), .fieldLink "NestedChecker" 26 "NestedChecker" "live" "LNestedChecker$Setting;", .code ⟨"NestedChecker$Setting", "has", "(I)Z"⟩ cX5_has 2 (some .boolean), .fieldLink "NestedChecker$Setting" 38 "NestedChecker$Setting" "automata" "I", .initialized "NestedChecker$Setting", .instanceMethod ⟨"NestedChecker$Setting", "has", "(I)Z"⟩, .selects "NestedChecker$Setting" ⟨"NestedChecker$Setting", "has", "(I)Z"⟩ ⟨"NestedChecker$Setting", "has", "(I)Z"⟩, .methodLink "NestedChecker" 163 ⟨"NestedChecker$Setting", "has", "(I)Z"⟩, .initialized "NestedChecker", .instanceMethod ⟨"NestedChecker", "areTwo", "(II)Z"⟩, .selects "NestedChecker" ⟨"NestedChecker", "areTwo", "(II)Z"⟩ ⟨"NestedChecker", "areTwo", "(II)Z"⟩, .methodLink "NestedChecker" 219 ⟨"NestedChecker", "areTwo", "(II)Z"⟩, .code ⟨"NestedChecker", "tableRefusal", "(ZI)I"⟩ cX11_tableRefusal 3 (some .int), .instanceMethod ⟨"NestedChecker", "tableRefusal", "(ZI)I"⟩, .selects "NestedChecker" ⟨"NestedChecker", "tableRefusal", "(ZI)I"⟩ ⟨"NestedChecker", "tableRefusal", "(ZI)I"⟩, .methodLink "NestedChecker" 327 ⟨"NestedChecker", "tableRefusal", "(ZI)I"⟩, .code ⟨"NestedChecker", "refuse", "(I)I"⟩ cX11_refuse 2 (some .int), .fieldLink "NestedChecker" 72 "NestedChecker" "lastStatus" "I", .instanceMethod ⟨"NestedChecker", "refuse", "(I)I"⟩, .selects "NestedChecker" ⟨"NestedChecker", "refuse", "(I)I"⟩ ⟨"NestedChecker", "refuse", "(I)I"⟩, .methodLink "NestedChecker" 110 ⟨"NestedChecker", "refuse", "(I)I"⟩] ++ wsX110 ++ wsX50)
set_option maxRecDepth 20000 in
theorem g_c_X11_equal_c_X11_areTwo : GoodIn ws_c_X11_equal ws_c_X11_areTwo := goodIn_r _ [1, 2, 3, 4, 5, 6, 7, 8, 22, 23, 24, 25, 26, 27, 28, 29, 30, 31, 32, 33, 34, 35, 36, 37, 38, 39, 40, 41, 42, 43] (by decide +kernel) (by decide +kernel)
set_option maxRecDepth 20000 in
theorem g_c_X11_equal_c_X11_tableRefusal : GoodIn ws_c_X11_equal ws_c_X11_tableRefusal := goodIn_r _ [13] (by decide +kernel) (by decide +kernel)
set_option maxRecDepth 20000 in
theorem g_c_X11_equal_c_X11_refuse : GoodIn ws_c_X11_equal ws_c_X11_refuse := goodIn_r _ [17, 18, 22, 23, 24, 25, 26, 27, 28, 29, 30, 31, 32, 33, 34, 35, 36] (by decide +kernel) (by decide +kernel)
set_option maxHeartbeats 4000000 in
set_option maxRecDepth 100000 in
theorem c_X11_equal (l : Launch) (D : va_G) (k : jK) (h0 : Nat) (a2 : Nat) (a4 : Nat) (a5 : Nat) (a6 : Nat) (a7 : Nat) (a8 : Nat) (a9 : Nat) (a10 : Nat) (t0 : Nat) (s0 : Nat) (s1 : Nat) (s2 : Nat) (s3 : Nat) (i1 : Int32) (i2 : Int32) (sz : Nat)  : Met l yX11_equal ws_c_X11_equal ({ frames := 2, cells := 0, slots := 0, locals := 43 }) (jy_P [.ref h0, .int i1, .int i2] D vwCl (jT k) jW [(h0, .inr (10, [.int 0, .long 0, .long 1, .ref t0, .ref a2, .ref s0, .ref a4, .int 0, .ref a5, .ref a6, .ref a7, .ref a8, .ref a9, .ref a10, .int 0])), (s0, .inr (4, [.int 0, .int 0, .int 0, .int 0, .ref s1, .ref s2, .ref s3]))] sz) (va_Qi (fun (r : Int32) (u : Unit) => r = -1) (jy_B D vwCl (va_A [(h0, .inr (10, [.int 0, .long 0, .long 1, .ref t0, .ref a2, .ref s0, .ref a4, .int 0, .ref a5, .ref a6, .ref a7, .ref a8, .ref a9, .ref a10, .int 0])), (s0, .inr (4, [.int 0, .int 0, .int 0, .int 0, .ref s1, .ref s2, .ref s3]))] sz) (fun (u : Unit) => [])) (va_A [(h0, .inr (10, [.int 0, .long 0, .long 1, .ref t0, .ref a2, .ref s0, .ref a4, .int 0, .ref a5, .ref a6, .ref a7, .ref a8, .ref a9, .ref a10, .int 0])), (s0, .inr (4, [.int 0, .int 0, .int 0, .int 0, .ref s1, .ref s2, .ref s3]))] sz)) 0 0 (va_A [(h0, .inr (10, [.int 0, .long 0, .long 1, .ref t0, .ref a2, .ref s0, .ref a4, .int 0, .ref a5, .ref a6, .ref a7, .ref a8, .ref a9, .ref a10, .int 0])), (s0, .inr (4, [.int 0, .int 0, .int 0, .int 0, .ref s1, .ref s2, .ref s3]))] sz) := by
  refine jy_met (cc := cX11_equal) (maxL := 6) (ret := (some .int)) (lv := [(0, .ref h0), (1, .int i1), (2, .int i2)]) (by decide) rfl (Nat.le_of_ble_eq_true rfl) rfl ?_
  intro p e s m below meth c F hr hlk hnm hN hA
  have hiX11 : ∀ w ∈ u_ws RX11 TX11 15, w ∈ ws_c_X11_equal := fun w hw => List.mem_cons_of_mem _ (List.mem_append_left _ (List.mem_append_right _ hw))
  have hiX5 : ∀ w ∈ u_ws RX5 TX5 7, w ∈ ws_c_X11_equal := fun w hw => List.mem_cons_of_mem _ (List.mem_append_right _ hw)
  refine jy_aload_n (pc' := 1) F 0 dX11_equal_0 rfl rfl rfl ?_
  refine jy_aload_n (pc' := 2) F 0 dX11_equal_1 rfl rfl rfl ?_
  refine jy_iload_n (pc' := 3) F 1 dX11_equal_2 rfl rfl rfl ?_
  refine jy_iload_n (pc' := 4) F 2 dX11_equal_3 rfl rfl rfl ?_
  refine jy_callSi (pc' := 7) (jy_runV (As := [.int i1, .int i2]) (b := h0) (q0 := 0) (ci := 10) (C := RX11) (T := TX11) (N := 15) (st := [.ref h0]) F hN (fun sz => c_X11_areTwo l D k h0 a2 a4 a5 a6 a7 a8 a9 a10 t0 s0 s1 s2 s3 i1 i2 sz ) (jy_cV F g_c_X11_equal_c_X11_areTwo rfl hdX11_areTwo (List.mem_of_getElem? (i := 9) rfl) (List.mem_of_getElem? (i := 12) rfl) (List.mem_of_getElem? (i := 10) rfl) (List.mem_of_getElem? (i := 11) rfl) rfl rfl ⟨by decide, by decide⟩) rfl rfl [0, 1] rfl (by decide) rfl rfl (Nat.le_of_ble_eq_true rfl) dX11_equal_4 ⟨by decide, by decide⟩) rfl (fun r_1 e_2 => ?_)
  subst e_2
  refine jy_iload_n (pc' := 8) F 2 dX11_equal_7 rfl rfl rfl ?_
  refine jy_callSi (pc' := 11) (jy_runV (As := [.int 0, .int i2]) (b := h0) (q0 := 0) (ci := 10) (C := RX11) (T := TX11) (N := 15) (st := []) F hN (fun sz => c_X11_tableRefusal l D k h0 a2 a4 a5 a6 a7 a8 a9 a10 t0 s0 i2 sz ) (jy_cV F g_c_X11_equal_c_X11_tableRefusal rfl hdX11_tableRefusal (List.mem_of_getElem? (i := 9) rfl) (List.mem_of_getElem? (i := 16) rfl) (List.mem_of_getElem? (i := 14) rfl) (List.mem_of_getElem? (i := 15) rfl) rfl rfl ⟨by decide, by decide⟩) rfl rfl [0] rfl (by decide) rfl rfl (Nat.le_of_ble_eq_true rfl) dX11_equal_8 ⟨by decide, by decide⟩) rfl (fun r_3 e_4 => ?_)
  subst e_4
  refine jy_istore_n (pc' := 12) (lv' := [(3, .int 1), (0, .ref h0), (1, .int i1), (2, .int i2)]) F dX11_equal_11 rfl (by decide) rfl rfl ?_
  refine jy_iload_n (pc' := 13) F 0 dX11_equal_12 rfl rfl rfl ?_
  refine jy_if_ne (pc' := 16) (tgt := 23) F dX11_equal_13 (by decide) rfl (fun _ => ?_) (fun h => absurd h (by decide))
  refine jy_iload_n (pc' := 24) F 0 dX11_equal_23 rfl rfl rfl ?_
  refine jy_if_eq (pc' := 27) (tgt := 33) F dX11_equal_24 (by decide) rfl (fun h => absurd h (by decide)) (fun _ => ?_)
  refine jy_aload_n (pc' := 28) F 1 dX11_equal_27 rfl rfl rfl ?_
  refine jy_iload_n (pc' := 29) F 0 dX11_equal_28 rfl rfl rfl ?_
  refine jy_calli (pc' := 32) (cells' := 0) (slots' := 0) (wr := [(s0, .inr (4, [.int 0, .int 0, .int 0, .int 0, .ref s1, .ref s2, .ref s3]))]) hA [0] [1] rfl rfl (by decide) (by decide) (jy_runV (As := [.int 1]) (b := h0) (q0 := 0) (ci := 10) (C := RX11) (T := TX11) (N := 15) (st := []) F hN (fun sz => c_X11_refuse l D k h0 0 (.long 0) (.long 1) (.ref t0) (.ref a2) (.ref s0) (.ref a4) (.int 0) (.ref a5) (.ref a6) (.ref a7) (.ref a8) (.ref a9) (.ref a10) (.int 0) 1 sz ) (jy_cV F g_c_X11_equal_c_X11_refuse rfl hdX11_refuse (List.mem_of_getElem? (i := 9) rfl) (List.mem_of_getElem? (i := 21) rfl) (List.mem_of_getElem? (i := 19) rfl) (List.mem_of_getElem? (i := 20) rfl) rfl rfl ⟨by decide, by decide⟩) rfl rfl [0] rfl (by decide) rfl rfl (Nat.le_of_ble_eq_true rfl) dX11_equal_29 ⟨by decide, by decide⟩) rfl rfl rfl (fun r_9 u_7 e_8 => ?_)
  subst e_8
  refine jy_widen (cells' := 0) (slots' := 0) (by decide) (by decide) ?_
  exact jy_iret (v := (-1)) F hr hlk () (rfl) [] rfl (by decide) dX11_equal_32
