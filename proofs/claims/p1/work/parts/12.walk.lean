abbrev cX11_count : ByteArray := prog_1_method_41_code
def yX11_count : MethodName := ⟨RX11, "count", "(II)I"⟩
theorem hdX11_count : yX11_count.cls ≠ "java/lang/invoke/MethodHandle" ∧ yX11_count.cls ≠ "java/lang/invoke/VarHandle" ∧ (parseMethodDescriptor yX11_count.desc).map (fun d => d.parameters.length) = some 2 := by decide +kernel
theorem dX11_count_0 : decode cX11_count 0 = .ok (.aload_n 0, 1) := by decide +kernel
theorem dX11_count_1 : decode cX11_count 1 = .ok (.getfield 26, 3) := by decide +kernel
theorem dX11_count_4 : decode cX11_count 4 = .ok (.iload_n 1, 1) := by decide +kernel
theorem dX11_count_5 : decode cX11_count 5 = .ok (.invokevirtual 163, 3) := by decide +kernel
theorem dX11_count_8 : decode cX11_count 8 = .ok (.ifCond .eq 13, 3) := by decide +kernel
theorem dX11_count_21 : decode cX11_count 21 = .ok (.aload_n 0, 1) := by decide +kernel
theorem dX11_count_22 : decode cX11_count 22 = .ok (.iconst 1, 1) := by decide +kernel
theorem dX11_count_23 : decode cX11_count 23 = .ok (.invokevirtual 110, 3) := by decide +kernel
theorem dX11_count_26 : decode cX11_count 26 = .ok (.ireturn, 1) := by decide +kernel
def ws_c_X11_count : List Cond := .code yX11_count cX11_count 4 (some .int) :: ([.fieldLink "NestedChecker" 26 "NestedChecker" "live" "LNestedChecker$Setting;", .code ⟨"NestedChecker$Setting", "has", "(I)Z"⟩ cX5_has 2 (some .boolean), .fieldLink "NestedChecker$Setting" 38 "NestedChecker$Setting" "automata" "I", .initialized "NestedChecker$Setting", .instanceMethod ⟨"NestedChecker$Setting", "has", "(I)Z"⟩, .selects "NestedChecker$Setting" ⟨"NestedChecker$Setting", "has", "(I)Z"⟩ ⟨"NestedChecker$Setting", "has", "(I)Z"⟩, .methodLink "NestedChecker" 163 ⟨"NestedChecker$Setting", "has", "(I)Z"⟩, .code ⟨"NestedChecker", "refuse", "(I)I"⟩ cX11_refuse 2 (some .int), .fieldLink "NestedChecker" 72 "NestedChecker" "lastStatus" "I", .initialized "NestedChecker", .instanceMethod ⟨"NestedChecker", "refuse", "(I)I"⟩, .selects "NestedChecker" ⟨"NestedChecker", "refuse", "(I)I"⟩ ⟨"NestedChecker", "refuse", "(I)I"⟩, .methodLink "NestedChecker" 110 ⟨"NestedChecker", "refuse", "(I)I"⟩] ++ wsX110 ++ wsX50)
set_option maxRecDepth 20000 in
theorem g_c_X11_count_c_X5_has : GoodIn ws_c_X11_count ws_c_X5_has := goodIn_r _ [2, 3, 29, 30, 31, 32, 33, 34, 35] (by decide +kernel) (by decide +kernel)
set_option maxRecDepth 20000 in
theorem g_c_X11_count_c_X11_refuse : GoodIn ws_c_X11_count ws_c_X11_refuse := goodIn_r _ [8, 9, 14, 15, 16, 17, 18, 19, 20, 21, 22, 23, 24, 25, 26, 27, 28] (by decide +kernel) (by decide +kernel)
set_option maxHeartbeats 4000000 in
set_option maxRecDepth 100000 in
theorem c_X11_count (l : Launch) (D : va_G) (k : jK) (h0 : Nat) (a2 : Nat) (a4 : Nat) (a5 : Nat) (a6 : Nat) (a7 : Nat) (a8 : Nat) (a9 : Nat) (a10 : Nat) (t0 : Nat) (s0 : Nat) (s1 : Nat) (s2 : Nat) (s3 : Nat) (i1 : Int32) (i2 : Int32) (sz : Nat)  : Met l yX11_count ws_c_X11_count ({ frames := 1, cells := 0, slots := 0, locals := 21 }) (jy_P [.ref h0, .int i1, .int i2] D vwCl (jT k) jW [(h0, .inr (10, [.int 0, .long 0, .long 1, .ref t0, .ref a2, .ref s0, .ref a4, .int 0, .ref a5, .ref a6, .ref a7, .ref a8, .ref a9, .ref a10, .int 0])), (s0, .inr (4, [.int 0, .int 0, .int 0, .int 0, .ref s1, .ref s2, .ref s3]))] sz) (va_Qi (fun (r : Int32) (u : Unit) => r = -1) (jy_B D vwCl (va_A [(h0, .inr (10, [.int 0, .long 0, .long 1, .ref t0, .ref a2, .ref s0, .ref a4, .int 0, .ref a5, .ref a6, .ref a7, .ref a8, .ref a9, .ref a10, .int 0])), (s0, .inr (4, [.int 0, .int 0, .int 0, .int 0, .ref s1, .ref s2, .ref s3]))] sz) (fun (u : Unit) => [])) (va_A [(h0, .inr (10, [.int 0, .long 0, .long 1, .ref t0, .ref a2, .ref s0, .ref a4, .int 0, .ref a5, .ref a6, .ref a7, .ref a8, .ref a9, .ref a10, .int 0])), (s0, .inr (4, [.int 0, .int 0, .int 0, .int 0, .ref s1, .ref s2, .ref s3]))] sz)) 0 0 (va_A [(h0, .inr (10, [.int 0, .long 0, .long 1, .ref t0, .ref a2, .ref s0, .ref a4, .int 0, .ref a5, .ref a6, .ref a7, .ref a8, .ref a9, .ref a10, .int 0])), (s0, .inr (4, [.int 0, .int 0, .int 0, .int 0, .ref s1, .ref s2, .ref s3]))] sz) := by
  refine jy_met (cc := cX11_count) (maxL := 4) (ret := (some .int)) (lv := [(0, .ref h0), (1, .int i1), (2, .int i2)]) (by decide) rfl (Nat.le_of_ble_eq_true rfl) rfl ?_
  intro p e s m below meth c F hr hlk hnm hN hA
  have hiX11 : ∀ w ∈ u_ws RX11 TX11 15, w ∈ ws_c_X11_count := fun w hw => List.mem_cons_of_mem _ (List.mem_append_left _ (List.mem_append_right _ hw))
  have hiX5 : ∀ w ∈ u_ws RX5 TX5 7, w ∈ ws_c_X11_count := fun w hw => List.mem_cons_of_mem _ (List.mem_append_right _ hw)
  refine jy_aload_n (pc' := 1) F 0 dX11_count_0 rfl rfl rfl ?_
  refine jy_get (pc' := 4) (C := RX11) (T := TX11) (N := 15) (ci := 10) (v := .ref s0) F hiX11 0 rfl rfl 5 (by decide) dX11_count_1 (List.mem_of_getElem? (i := 1) rfl) rfl rfl ?_
  refine jy_iload_n (pc' := 5) F 1 dX11_count_4 rfl rfl rfl ?_
  refine jy_callSi (pc' := 8) (jy_runV (As := [.int i1]) (b := s0) (q0 := 1) (ci := 4) (C := RX5) (T := TX5) (N := 7) (st := []) F hN (fun sz => c_X5_has l D k s0 s1 s2 s3 i1 sz ) (jy_cV F g_c_X11_count_c_X5_has rfl hdX5_has (List.mem_of_getElem? (i := 4) rfl) (List.mem_of_getElem? (i := 7) rfl) (List.mem_of_getElem? (i := 5) rfl) (List.mem_of_getElem? (i := 6) rfl) rfl rfl ⟨by decide, by decide⟩) rfl rfl [1] rfl (by decide) rfl rfl (Nat.le_of_ble_eq_true rfl) dX11_count_5 ⟨by decide, by decide⟩) rfl (fun r_1 e_2 => ?_)
  subst e_2
  refine jy_if_eq (pc' := 11) (tgt := 21) F dX11_count_8 (by decide) rfl (fun _ => ?_) (fun h => absurd h (by decide))
  refine jy_aload_n (pc' := 22) F 0 dX11_count_21 rfl rfl rfl ?_
  refine jy_iconst (pc' := 23) (v := 1) F dX11_count_22 (by decide) rfl ?_
  refine jy_calli (pc' := 26) (cells' := 0) (slots' := 0) (wr := [(s0, .inr (4, [.int 0, .int 0, .int 0, .int 0, .ref s1, .ref s2, .ref s3]))]) hA [0] [1] rfl rfl (by decide) (by decide) (jy_runV (As := [.int 1]) (b := h0) (q0 := 0) (ci := 10) (C := RX11) (T := TX11) (N := 15) (st := []) F hN (fun sz => c_X11_refuse l D k h0 0 (.long 0) (.long 1) (.ref t0) (.ref a2) (.ref s0) (.ref a4) (.int 0) (.ref a5) (.ref a6) (.ref a7) (.ref a8) (.ref a9) (.ref a10) (.int 0) 1 sz ) (jy_cV F g_c_X11_count_c_X11_refuse rfl hdX11_refuse (List.mem_of_getElem? (i := 10) rfl) (List.mem_of_getElem? (i := 13) rfl) (List.mem_of_getElem? (i := 11) rfl) (List.mem_of_getElem? (i := 12) rfl) rfl rfl ⟨by decide, by decide⟩) rfl rfl [0] rfl (by decide) rfl rfl (Nat.le_of_ble_eq_true rfl) dX11_count_23 ⟨by decide, by decide⟩) rfl rfl rfl (fun r_6 u_4 e_5 => ?_)
  subst e_5
  refine jy_widen (cells' := 0) (slots' := 0) (by decide) (by decide) ?_
  exact jy_iret (v := (-1)) F hr hlk () (rfl) [] rfl (by decide) dX11_count_26
abbrev cX11_lastAt : ByteArray := prog_1_method_43_code
def yX11_lastAt : MethodName := ⟨RX11, "lastAt", "(III)I"⟩
theorem hdX11_lastAt : yX11_lastAt.cls ≠ "java/lang/invoke/MethodHandle" ∧ yX11_lastAt.cls ≠ "java/lang/invoke/VarHandle" ∧ (parseMethodDescriptor yX11_lastAt.desc).map (fun d => d.parameters.length) = some 3 := by decide +kernel
theorem dX11_lastAt_0 : decode cX11_lastAt 0 = .ok (.aload_n 0, 1) := by decide +kernel
theorem dX11_lastAt_1 : decode cX11_lastAt 1 = .ok (.getfield 26, 3) := by decide +kernel
theorem dX11_lastAt_4 : decode cX11_lastAt 4 = .ok (.iload_n 1, 1) := by decide +kernel
theorem dX11_lastAt_5 : decode cX11_lastAt 5 = .ok (.invokevirtual 163, 3) := by decide +kernel
theorem dX11_lastAt_8 : decode cX11_lastAt 8 = .ok (.ifCond .eq 24, 3) := by decide +kernel
theorem dX11_lastAt_32 : decode cX11_lastAt 32 = .ok (.aload_n 0, 1) := by decide +kernel
theorem dX11_lastAt_33 : decode cX11_lastAt 33 = .ok (.iconst 1, 1) := by decide +kernel
theorem dX11_lastAt_34 : decode cX11_lastAt 34 = .ok (.invokevirtual 110, 3) := by decide +kernel
theorem dX11_lastAt_37 : decode cX11_lastAt 37 = .ok (.ireturn, 1) := by decide +kernel
def ws_c_X11_lastAt : List Cond := .code yX11_lastAt cX11_lastAt 6 (some .int) :: ([.fieldLink "NestedChecker" 26 "NestedChecker" "live" "LNestedChecker$Setting;", .code ⟨"NestedChecker$Setting", "has", "(I)Z"⟩ cX5_has 2 (some .boolean), .fieldLink "NestedChecker$Setting" 38 "NestedChecker$Setting" "automata" "I", .initialized "NestedChecker$Setting", .instanceMethod ⟨"NestedChecker$Setting", "has", "(I)Z"⟩, .selects "NestedChecker$Setting" ⟨"NestedChecker$Setting", "has", "(I)Z"⟩ ⟨"NestedChecker$Setting", "has", "(I)Z"⟩, .methodLink "NestedChecker" 163 ⟨"NestedChecker$Setting", "has", "(I)Z"⟩, .code ⟨"NestedChecker", "refuse", "(I)I"⟩ cX11_refuse 2 (some .int), .fieldLink "NestedChecker" 72 "NestedChecker" "lastStatus" "I", .initialized "NestedChecker", .instanceMethod ⟨"NestedChecker", "refuse", "(I)I"⟩, .selects "NestedChecker" ⟨"NestedChecker", "refuse", "(I)I"⟩ ⟨"NestedChecker", "refuse", "(I)I"⟩, .methodLink "NestedChecker" 110 ⟨"NestedChecker", "refuse", "(I)I"⟩] ++ wsX110 ++ wsX50)
set_option maxRecDepth 20000 in
theorem g_c_X11_lastAt_c_X5_has : GoodIn ws_c_X11_lastAt ws_c_X5_has := goodIn_r _ [2, 3, 29, 30, 31, 32, 33, 34, 35] (by decide +kernel) (by decide +kernel)
set_option maxRecDepth 20000 in
theorem g_c_X11_lastAt_c_X11_refuse : GoodIn ws_c_X11_lastAt ws_c_X11_refuse := goodIn_r _ [8, 9, 14, 15, 16, 17, 18, 19, 20, 21, 22, 23, 24, 25, 26, 27, 28] (by decide +kernel) (by decide +kernel)
set_option maxHeartbeats 4000000 in
set_option maxRecDepth 100000 in
theorem c_X11_lastAt (l : Launch) (D : va_G) (k : jK) (h0 : Nat) (a2 : Nat) (a4 : Nat) (a5 : Nat) (a6 : Nat) (a7 : Nat) (a8 : Nat) (a9 : Nat) (a10 : Nat) (t0 : Nat) (s0 : Nat) (s1 : Nat) (s2 : Nat) (s3 : Nat) (i1 : Int32) (i2 : Int32) (i3 : Int32) (sz : Nat)  : Met l yX11_lastAt ws_c_X11_lastAt ({ frames := 1, cells := 0, slots := 0, locals := 21 }) (jy_P [.ref h0, .int i1, .int i2, .int i3] D vwCl (jT k) jW [(h0, .inr (10, [.int 0, .long 0, .long 1, .ref t0, .ref a2, .ref s0, .ref a4, .int 0, .ref a5, .ref a6, .ref a7, .ref a8, .ref a9, .ref a10, .int 0])), (s0, .inr (4, [.int 0, .int 0, .int 0, .int 0, .ref s1, .ref s2, .ref s3]))] sz) (va_Qi (fun (r : Int32) (u : Unit) => r = -1) (jy_B D vwCl (va_A [(h0, .inr (10, [.int 0, .long 0, .long 1, .ref t0, .ref a2, .ref s0, .ref a4, .int 0, .ref a5, .ref a6, .ref a7, .ref a8, .ref a9, .ref a10, .int 0])), (s0, .inr (4, [.int 0, .int 0, .int 0, .int 0, .ref s1, .ref s2, .ref s3]))] sz) (fun (u : Unit) => [])) (va_A [(h0, .inr (10, [.int 0, .long 0, .long 1, .ref t0, .ref a2, .ref s0, .ref a4, .int 0, .ref a5, .ref a6, .ref a7, .ref a8, .ref a9, .ref a10, .int 0])), (s0, .inr (4, [.int 0, .int 0, .int 0, .int 0, .ref s1, .ref s2, .ref s3]))] sz)) 0 0 (va_A [(h0, .inr (10, [.int 0, .long 0, .long 1, .ref t0, .ref a2, .ref s0, .ref a4, .int 0, .ref a5, .ref a6, .ref a7, .ref a8, .ref a9, .ref a10, .int 0])), (s0, .inr (4, [.int 0, .int 0, .int 0, .int 0, .ref s1, .ref s2, .ref s3]))] sz) := by
  refine jy_met (cc := cX11_lastAt) (maxL := 6) (ret := (some .int)) (lv := [(0, .ref h0), (1, .int i1), (2, .int i2), (3, .int i3)]) (by decide) rfl (Nat.le_of_ble_eq_true rfl) rfl ?_
  intro p e s m below meth c F hr hlk hnm hN hA
  have hiX11 : ∀ w ∈ u_ws RX11 TX11 15, w ∈ ws_c_X11_lastAt := fun w hw => List.mem_cons_of_mem _ (List.mem_append_left _ (List.mem_append_right _ hw))
  have hiX5 : ∀ w ∈ u_ws RX5 TX5 7, w ∈ ws_c_X11_lastAt := fun w hw => List.mem_cons_of_mem _ (List.mem_append_right _ hw)
  refine jy_aload_n (pc' := 1) F 0 dX11_lastAt_0 rfl rfl rfl ?_
  refine jy_get (pc' := 4) (C := RX11) (T := TX11) (N := 15) (ci := 10) (v := .ref s0) F hiX11 0 rfl rfl 5 (by decide) dX11_lastAt_1 (List.mem_of_getElem? (i := 1) rfl) rfl rfl ?_
  refine jy_iload_n (pc' := 5) F 1 dX11_lastAt_4 rfl rfl rfl ?_
  refine jy_callSi (pc' := 8) (jy_runV (As := [.int i1]) (b := s0) (q0 := 1) (ci := 4) (C := RX5) (T := TX5) (N := 7) (st := []) F hN (fun sz => c_X5_has l D k s0 s1 s2 s3 i1 sz ) (jy_cV F g_c_X11_lastAt_c_X5_has rfl hdX5_has (List.mem_of_getElem? (i := 4) rfl) (List.mem_of_getElem? (i := 7) rfl) (List.mem_of_getElem? (i := 5) rfl) (List.mem_of_getElem? (i := 6) rfl) rfl rfl ⟨by decide, by decide⟩) rfl rfl [1] rfl (by decide) rfl rfl (Nat.le_of_ble_eq_true rfl) dX11_lastAt_5 ⟨by decide, by decide⟩) rfl (fun r_1 e_2 => ?_)
  subst e_2
  refine jy_if_eq (pc' := 11) (tgt := 32) F dX11_lastAt_8 (by decide) rfl (fun _ => ?_) (fun h => absurd h (by decide))
  refine jy_aload_n (pc' := 33) F 0 dX11_lastAt_32 rfl rfl rfl ?_
  refine jy_iconst (pc' := 34) (v := 1) F dX11_lastAt_33 (by decide) rfl ?_
  refine jy_calli (pc' := 37) (cells' := 0) (slots' := 0) (wr := [(s0, .inr (4, [.int 0, .int 0, .int 0, .int 0, .ref s1, .ref s2, .ref s3]))]) hA [0] [1] rfl rfl (by decide) (by decide) (jy_runV (As := [.int 1]) (b := h0) (q0 := 0) (ci := 10) (C := RX11) (T := TX11) (N := 15) (st := []) F hN (fun sz => c_X11_refuse l D k h0 0 (.long 0) (.long 1) (.ref t0) (.ref a2) (.ref s0) (.ref a4) (.int 0) (.ref a5) (.ref a6) (.ref a7) (.ref a8) (.ref a9) (.ref a10) (.int 0) 1 sz ) (jy_cV F g_c_X11_lastAt_c_X11_refuse rfl hdX11_refuse (List.mem_of_getElem? (i := 10) rfl) (List.mem_of_getElem? (i := 13) rfl) (List.mem_of_getElem? (i := 11) rfl) (List.mem_of_getElem? (i := 12) rfl) rfl rfl ⟨by decide, by decide⟩) rfl rfl [0] rfl (by decide) rfl rfl (Nat.le_of_ble_eq_true rfl) dX11_lastAt_34 ⟨by decide, by decide⟩) rfl rfl rfl (fun r_6 u_4 e_5 => ?_)
  subst e_5
  refine jy_widen (cells' := 0) (slots' := 0) (by decide) (by decide) ?_
  exact jy_iret (v := (-1)) F hr hlk () (rfl) [] rfl (by decide) dX11_lastAt_37
abbrev cX11_watch : ByteArray := prog_1_method_46_code
def yX11_watch : MethodName := ⟨RX11, "watch", "(I)I"⟩
theorem hdX11_watch : yX11_watch.cls ≠ "java/lang/invoke/MethodHandle" ∧ yX11_watch.cls ≠ "java/lang/invoke/VarHandle" ∧ (parseMethodDescriptor yX11_watch.desc).map (fun d => d.parameters.length) = some 1 := by decide +kernel
theorem dX11_watch_0 : decode cX11_watch 0 = .ok (.aload_n 0, 1) := by decide +kernel
theorem dX11_watch_1 : decode cX11_watch 1 = .ok (.getfield 26, 3) := by decide +kernel
theorem dX11_watch_4 : decode cX11_watch 4 = .ok (.iload_n 1, 1) := by decide +kernel
theorem dX11_watch_5 : decode cX11_watch 5 = .ok (.invokevirtual 163, 3) := by decide +kernel
theorem dX11_watch_8 : decode cX11_watch 8 = .ok (.ifCond .ne 9, 3) := by decide +kernel
theorem dX11_watch_11 : decode cX11_watch 11 = .ok (.aload_n 0, 1) := by decide +kernel
theorem dX11_watch_12 : decode cX11_watch 12 = .ok (.iconst 1, 1) := by decide +kernel
theorem dX11_watch_13 : decode cX11_watch 13 = .ok (.invokevirtual 110, 3) := by decide +kernel
theorem dX11_watch_16 : decode cX11_watch 16 = .ok (.ireturn, 1) := by decide +kernel
def ws_c_X11_watch : List Cond := .code yX11_watch cX11_watch 3 (some .int) :: ([.fieldLink "NestedChecker" 26 "NestedChecker" "live" "LNestedChecker$Setting;", .code ⟨"NestedChecker$Setting", "has", "(I)Z"⟩ cX5_has 2 (some .boolean), .fieldLink "NestedChecker$Setting" 38 "NestedChecker$Setting" "automata" "I", .initialized "NestedChecker$Setting", .instanceMethod ⟨"NestedChecker$Setting", "has", "(I)Z"⟩, .selects "NestedChecker$Setting" ⟨"NestedChecker$Setting", "has", "(I)Z"⟩ ⟨"NestedChecker$Setting", "has", "(I)Z"⟩, .methodLink "NestedChecker" 163 ⟨"NestedChecker$Setting", "has", "(I)Z"⟩, .code ⟨"NestedChecker", "refuse", "(I)I"⟩ cX11_refuse 2 (some .int), .fieldLink "NestedChecker" 72 "NestedChecker" "lastStatus" "I", .initialized "NestedChecker", .instanceMethod ⟨"NestedChecker", "refuse", "(I)I"⟩, .selects "NestedChecker" ⟨"NestedChecker", "refuse", "(I)I"⟩ ⟨"NestedChecker", "refuse", "(I)I"⟩, .methodLink "NestedChecker" 110 ⟨"NestedChecker", "refuse", "(I)I"⟩] ++ wsX110 ++ wsX50)
set_option maxRecDepth 20000 in
theorem g_c_X11_watch_c_X5_has : GoodIn ws_c_X11_watch ws_c_X5_has := goodIn_r _ [2, 3, 29, 30, 31, 32, 33, 34, 35] (by decide +kernel) (by decide +kernel)
set_option maxRecDepth 20000 in
theorem g_c_X11_watch_c_X11_refuse : GoodIn ws_c_X11_watch ws_c_X11_refuse := goodIn_r _ [8, 9, 14, 15, 16, 17, 18, 19, 20, 21, 22, 23, 24, 25, 26, 27, 28] (by decide +kernel) (by decide +kernel)
set_option maxHeartbeats 4000000 in
set_option maxRecDepth 100000 in
theorem c_X11_watch (l : Launch) (D : va_G) (k : jK) (h0 : Nat) (a2 : Nat) (a4 : Nat) (a5 : Nat) (a6 : Nat) (a7 : Nat) (a8 : Nat) (a9 : Nat) (a10 : Nat) (t0 : Nat) (s0 : Nat) (s1 : Nat) (s2 : Nat) (s3 : Nat) (i1 : Int32) (sz : Nat)  : Met l yX11_watch ws_c_X11_watch ({ frames := 1, cells := 0, slots := 0, locals := 21 }) (jy_P [.ref h0, .int i1] D vwCl (jT k) jW [(h0, .inr (10, [.int 0, .long 0, .long 1, .ref t0, .ref a2, .ref s0, .ref a4, .int 0, .ref a5, .ref a6, .ref a7, .ref a8, .ref a9, .ref a10, .int 0])), (s0, .inr (4, [.int 0, .int 0, .int 0, .int 0, .ref s1, .ref s2, .ref s3]))] sz) (va_Qi (fun (r : Int32) (u : Unit) => r = -1) (jy_B D vwCl (va_A [(h0, .inr (10, [.int 0, .long 0, .long 1, .ref t0, .ref a2, .ref s0, .ref a4, .int 0, .ref a5, .ref a6, .ref a7, .ref a8, .ref a9, .ref a10, .int 0])), (s0, .inr (4, [.int 0, .int 0, .int 0, .int 0, .ref s1, .ref s2, .ref s3]))] sz) (fun (u : Unit) => [])) (va_A [(h0, .inr (10, [.int 0, .long 0, .long 1, .ref t0, .ref a2, .ref s0, .ref a4, .int 0, .ref a5, .ref a6, .ref a7, .ref a8, .ref a9, .ref a10, .int 0])), (s0, .inr (4, [.int 0, .int 0, .int 0, .int 0, .ref s1, .ref s2, .ref s3]))] sz)) 0 0 (va_A [(h0, .inr (10, [.int 0, .long 0, .long 1, .ref t0, .ref a2, .ref s0, .ref a4, .int 0, .ref a5, .ref a6, .ref a7, .ref a8, .ref a9, .ref a10, .int 0])), (s0, .inr (4, [.int 0, .int 0, .int 0, .int 0, .ref s1, .ref s2, .ref s3]))] sz) := by
  refine jy_met (cc := cX11_watch) (maxL := 3) (ret := (some .int)) (lv := [(0, .ref h0), (1, .int i1)]) (by decide) rfl (Nat.le_of_ble_eq_true rfl) rfl ?_
  intro p e s m below meth c F hr hlk hnm hN hA
  have hiX11 : ∀ w ∈ u_ws RX11 TX11 15, w ∈ ws_c_X11_watch := fun w hw => List.mem_cons_of_mem _ (List.mem_append_left _ (List.mem_append_right _ hw))
  have hiX5 : ∀ w ∈ u_ws RX5 TX5 7, w ∈ ws_c_X11_watch := fun w hw => List.mem_cons_of_mem _ (List.mem_append_right _ hw)
  refine jy_aload_n (pc' := 1) F 0 dX11_watch_0 rfl rfl rfl ?_
  refine jy_get (pc' := 4) (C := RX11) (T := TX11) (N := 15) (ci := 10) (v := .ref s0) F hiX11 0 rfl rfl 5 (by decide) dX11_watch_1 (List.mem_of_getElem? (i := 1) rfl) rfl rfl ?_
  refine jy_iload_n (pc' := 5) F 1 dX11_watch_4 rfl rfl rfl ?_
  refine jy_callSi (pc' := 8) (jy_runV (As := [.int i1]) (b := s0) (q0 := 1) (ci := 4) (C := RX5) (T := TX5) (N := 7) (st := []) F hN (fun sz => c_X5_has l D k s0 s1 s2 s3 i1 sz ) (jy_cV F g_c_X11_watch_c_X5_has rfl hdX5_has (List.mem_of_getElem? (i := 4) rfl) (List.mem_of_getElem? (i := 7) rfl) (List.mem_of_getElem? (i := 5) rfl) (List.mem_of_getElem? (i := 6) rfl) rfl rfl ⟨by decide, by decide⟩) rfl rfl [1] rfl (by decide) rfl rfl (Nat.le_of_ble_eq_true rfl) dX11_watch_5 ⟨by decide, by decide⟩) rfl (fun r_1 e_2 => ?_)
  subst e_2
  refine jy_if_ne (pc' := 11) (tgt := 17) F dX11_watch_8 (by decide) rfl (fun h => absurd h (by decide)) (fun _ => ?_)
  refine jy_aload_n (pc' := 12) F 0 dX11_watch_11 rfl rfl rfl ?_
  refine jy_iconst (pc' := 13) (v := 1) F dX11_watch_12 (by decide) rfl ?_
  refine jy_calli (pc' := 16) (cells' := 0) (slots' := 0) (wr := [(s0, .inr (4, [.int 0, .int 0, .int 0, .int 0, .ref s1, .ref s2, .ref s3]))]) hA [0] [1] rfl rfl (by decide) (by decide) (jy_runV (As := [.int 1]) (b := h0) (q0 := 0) (ci := 10) (C := RX11) (T := TX11) (N := 15) (st := []) F hN (fun sz => c_X11_refuse l D k h0 0 (.long 0) (.long 1) (.ref t0) (.ref a2) (.ref s0) (.ref a4) (.int 0) (.ref a5) (.ref a6) (.ref a7) (.ref a8) (.ref a9) (.ref a10) (.int 0) 1 sz ) (jy_cV F g_c_X11_watch_c_X11_refuse rfl hdX11_refuse (List.mem_of_getElem? (i := 10) rfl) (List.mem_of_getElem? (i := 13) rfl) (List.mem_of_getElem? (i := 11) rfl) (List.mem_of_getElem? (i := 12) rfl) rfl rfl ⟨by decide, by decide⟩) rfl rfl [0] rfl (by decide) rfl rfl (Nat.le_of_ble_eq_true rfl) dX11_watch_13 ⟨by decide, by decide⟩) rfl rfl rfl (fun r_6 u_4 e_5 => ?_)
  subst e_5
  refine jy_widen (cells' := 0) (slots' := 0) (by decide) (by decide) ?_
  exact jy_iret (v := (-1)) F hr hlk () (rfl) [] rfl (by decide) dX11_watch_16
abbrev cX11_see : ByteArray := prog_1_method_47_code
def yX11_see : MethodName := ⟨RX11, "see", "(I)I"⟩
theorem hdX11_see : yX11_see.cls ≠ "java/lang/invoke/MethodHandle" ∧ yX11_see.cls ≠ "java/lang/invoke/VarHandle" ∧ (parseMethodDescriptor yX11_see.desc).map (fun d => d.parameters.length) = some 1 := by decide +kernel
theorem dX11_see_0 : decode cX11_see 0 = .ok (.aload_n 0, 1) := by decide +kernel
theorem dX11_see_1 : decode cX11_see 1 = .ok (.getfield 26, 3) := by decide +kernel
theorem dX11_see_4 : decode cX11_see 4 = .ok (.iload_n 1, 1) := by decide +kernel
theorem dX11_see_5 : decode cX11_see 5 = .ok (.invokevirtual 286, 3) := by decide +kernel
theorem dX11_see_8 : decode cX11_see 8 = .ok (.ifCond .ne 9, 3) := by decide +kernel
theorem dX11_see_11 : decode cX11_see 11 = .ok (.aload_n 0, 1) := by decide +kernel
theorem dX11_see_12 : decode cX11_see 12 = .ok (.iconst 1, 1) := by decide +kernel
theorem dX11_see_13 : decode cX11_see 13 = .ok (.invokevirtual 110, 3) := by decide +kernel
theorem dX11_see_16 : decode cX11_see 16 = .ok (.ireturn, 1) := by decide +kernel
def ws_c_X11_see : List Cond := .code yX11_see cX11_see 5 (some .int) :: ([.fieldLink "NestedChecker" 26 "NestedChecker" "live" "LNestedChecker$Setting;", .code ⟨"NestedChecker$Setting", "hasLetter", "(I)Z"⟩ cX5_hasLetter 2 (some .boolean), .fieldLink "NestedChecker$Setting" 35 "NestedChecker$Setting" "letters" "I", .initialized "NestedChecker$Setting", .instanceMethod ⟨"NestedChecker$Setting", "hasLetter", "(I)Z"⟩, .selects "NestedChecker$Setting" ⟨"NestedChecker$Setting", "hasLetter", "(I)Z"⟩ ⟨"NestedChecker$Setting", "hasLetter", "(I)Z"⟩, .methodLink "NestedChecker" 286 ⟨"NestedChecker$Setting", "hasLetter", "(I)Z"⟩, .code ⟨"NestedChecker", "refuse", "(I)I"⟩ cX11_refuse 2 (some .int), .fieldLink "NestedChecker" 72 "NestedChecker" "lastStatus" "I", .initialized "NestedChecker", .instanceMethod ⟨"NestedChecker", "refuse", "(I)I"⟩, .selects "NestedChecker" ⟨"NestedChecker", "refuse", "(I)I"⟩ ⟨"NestedChecker", "refuse", "(I)I"⟩, .methodLink "NestedChecker" 110 ⟨"NestedChecker", "refuse", "(I)I"⟩] ++ wsX110 ++ wsX50)
set_option maxRecDepth 20000 in
theorem g_c_X11_see_c_X5_hasLetter : GoodIn ws_c_X11_see ws_c_X5_hasLetter := goodIn_r _ [2, 3, 29, 30, 31, 32, 33, 34, 35] (by decide +kernel) (by decide +kernel)
set_option maxRecDepth 20000 in
theorem g_c_X11_see_c_X11_refuse : GoodIn ws_c_X11_see ws_c_X11_refuse := goodIn_r _ [8, 9, 14, 15, 16, 17, 18, 19, 20, 21, 22, 23, 24, 25, 26, 27, 28] (by decide +kernel) (by decide +kernel)
set_option maxHeartbeats 4000000 in
set_option maxRecDepth 100000 in
theorem c_X11_see (l : Launch) (D : va_G) (k : jK) (h0 : Nat) (a2 : Nat) (a4 : Nat) (a5 : Nat) (a6 : Nat) (a7 : Nat) (a8 : Nat) (a9 : Nat) (a10 : Nat) (t0 : Nat) (s0 : Nat) (s1 : Nat) (s2 : Nat) (s3 : Nat) (i1 : Int32) (sz : Nat)  : Met l yX11_see ws_c_X11_see ({ frames := 1, cells := 0, slots := 0, locals := 21 }) (jy_P [.ref h0, .int i1] D vwCl (jT k) jW [(h0, .inr (10, [.int 0, .long 0, .long 1, .ref t0, .ref a2, .ref s0, .ref a4, .int 0, .ref a5, .ref a6, .ref a7, .ref a8, .ref a9, .ref a10, .int 0])), (s0, .inr (4, [.int 0, .int 0, .int 0, .int 0, .ref s1, .ref s2, .ref s3]))] sz) (va_Qi (fun (r : Int32) (u : Unit) => r = -1) (jy_B D vwCl (va_A [(h0, .inr (10, [.int 0, .long 0, .long 1, .ref t0, .ref a2, .ref s0, .ref a4, .int 0, .ref a5, .ref a6, .ref a7, .ref a8, .ref a9, .ref a10, .int 0])), (s0, .inr (4, [.int 0, .int 0, .int 0, .int 0, .ref s1, .ref s2, .ref s3]))] sz) (fun (u : Unit) => [])) (va_A [(h0, .inr (10, [.int 0, .long 0, .long 1, .ref t0, .ref a2, .ref s0, .ref a4, .int 0, .ref a5, .ref a6, .ref a7, .ref a8, .ref a9, .ref a10, .int 0])), (s0, .inr (4, [.int 0, .int 0, .int 0, .int 0, .ref s1, .ref s2, .ref s3]))] sz)) 0 0 (va_A [(h0, .inr (10, [.int 0, .long 0, .long 1, .ref t0, .ref a2, .ref s0, .ref a4, .int 0, .ref a5, .ref a6, .ref a7, .ref a8, .ref a9, .ref a10, .int 0])), (s0, .inr (4, [.int 0, .int 0, .int 0, .int 0, .ref s1, .ref s2, .ref s3]))] sz) := by
  refine jy_met (cc := cX11_see) (maxL := 5) (ret := (some .int)) (lv := [(0, .ref h0), (1, .int i1)]) (by decide) rfl (Nat.le_of_ble_eq_true rfl) rfl ?_
  intro p e s m below meth c F hr hlk hnm hN hA
  have hiX11 : ∀ w ∈ u_ws RX11 TX11 15, w ∈ ws_c_X11_see := fun w hw => List.mem_cons_of_mem _ (List.mem_append_left _ (List.mem_append_right _ hw))
  have hiX5 : ∀ w ∈ u_ws RX5 TX5 7, w ∈ ws_c_X11_see := fun w hw => List.mem_cons_of_mem _ (List.mem_append_right _ hw)
  refine jy_aload_n (pc' := 1) F 0 dX11_see_0 rfl rfl rfl ?_
  refine jy_get (pc' := 4) (C := RX11) (T := TX11) (N := 15) (ci := 10) (v := .ref s0) F hiX11 0 rfl rfl 5 (by decide) dX11_see_1 (List.mem_of_getElem? (i := 1) rfl) rfl rfl ?_
  refine jy_iload_n (pc' := 5) F 1 dX11_see_4 rfl rfl rfl ?_
  refine jy_callSi (pc' := 8) (jy_runV (As := [.int i1]) (b := s0) (q0 := 1) (ci := 4) (C := RX5) (T := TX5) (N := 7) (st := []) F hN (fun sz => c_X5_hasLetter l D k s0 s1 s2 s3 i1 sz ) (jy_cV F g_c_X11_see_c_X5_hasLetter rfl hdX5_hasLetter (List.mem_of_getElem? (i := 4) rfl) (List.mem_of_getElem? (i := 7) rfl) (List.mem_of_getElem? (i := 5) rfl) (List.mem_of_getElem? (i := 6) rfl) rfl rfl ⟨by decide, by decide⟩) rfl rfl [1] rfl (by decide) rfl rfl (Nat.le_of_ble_eq_true rfl) dX11_see_5 ⟨by decide, by decide⟩) rfl (fun r_1 e_2 => ?_)
  subst e_2
  refine jy_if_ne (pc' := 11) (tgt := 17) F dX11_see_8 (by decide) rfl (fun h => absurd h (by decide)) (fun _ => ?_)
  refine jy_aload_n (pc' := 12) F 0 dX11_see_11 rfl rfl rfl ?_
  refine jy_iconst (pc' := 13) (v := 1) F dX11_see_12 (by decide) rfl ?_
  refine jy_calli (pc' := 16) (cells' := 0) (slots' := 0) (wr := [(s0, .inr (4, [.int 0, .int 0, .int 0, .int 0, .ref s1, .ref s2, .ref s3]))]) hA [0] [1] rfl rfl (by decide) (by decide) (jy_runV (As := [.int 1]) (b := h0) (q0 := 0) (ci := 10) (C := RX11) (T := TX11) (N := 15) (st := []) F hN (fun sz => c_X11_refuse l D k h0 0 (.long 0) (.long 1) (.ref t0) (.ref a2) (.ref s0) (.ref a4) (.int 0) (.ref a5) (.ref a6) (.ref a7) (.ref a8) (.ref a9) (.ref a10) (.int 0) 1 sz ) (jy_cV F g_c_X11_see_c_X11_refuse rfl hdX11_refuse (List.mem_of_getElem? (i := 10) rfl) (List.mem_of_getElem? (i := 13) rfl) (List.mem_of_getElem? (i := 11) rfl) (List.mem_of_getElem? (i := 12) rfl) rfl rfl ⟨by decide, by decide⟩) rfl rfl [0] rfl (by decide) rfl rfl (Nat.le_of_ble_eq_true rfl) dX11_see_13 ⟨by decide, by decide⟩) rfl rfl rfl (fun r_6 u_4 e_5 => ?_)
  subst e_5
  refine jy_widen (cells' := 0) (slots' := 0) (by decide) (by decide) ?_
  exact jy_iret (v := (-1)) F hr hlk () (rfl) [] rfl (by decide) dX11_see_16
abbrev cX11_share : ByteArray := prog_1_method_42_code
def yX11_share : MethodName := ⟨RX11, "share", "(II)Z"⟩
theorem hdX11_share : yX11_share.cls ≠ "java/lang/invoke/MethodHandle" ∧ yX11_share.cls ≠ "java/lang/invoke/VarHandle" ∧ (parseMethodDescriptor yX11_share.desc).map (fun d => d.parameters.length) = some 2 := by decide +kernel
theorem dX11_share_0 : decode cX11_share 0 = .ok (.aload_n 0, 1) := by decide +kernel
theorem dX11_share_1 : decode cX11_share 1 = .ok (.getfield 26, 3) := by decide +kernel
theorem dX11_share_4 : decode cX11_share 4 = .ok (.iload_n 1, 1) := by decide +kernel
theorem dX11_share_5 : decode cX11_share 5 = .ok (.invokevirtual 163, 3) := by decide +kernel
theorem dX11_share_8 : decode cX11_share 8 = .ok (.ifCond .eq 13, 3) := by decide +kernel
theorem dX11_share_21 : decode cX11_share 21 = .ok (.aload_n 0, 1) := by decide +kernel
theorem dX11_share_22 : decode cX11_share 22 = .ok (.iconst 1, 1) := by decide +kernel
theorem dX11_share_23 : decode cX11_share 23 = .ok (.invokevirtual 91, 3) := by decide +kernel
theorem dX11_share_26 : decode cX11_share 26 = .ok (.ireturn, 1) := by decide +kernel
def ws_c_X11_share : List Cond := .code yX11_share cX11_share 4 (some .boolean) :: ([.fieldLink "NestedChecker" 26 "NestedChecker" "live" "LNestedChecker$Setting;", .code ⟨"NestedChecker$Setting", "has", "(I)Z"⟩ cX5_has 2 (some .boolean), .fieldLink "NestedChecker$Setting" 38 "NestedChecker$Setting" "automata" "I", .initialized "NestedChecker$Setting", .instanceMethod ⟨"NestedChecker$Setting", "has", "(I)Z"⟩, .selects "NestedChecker$Setting" ⟨"NestedChecker$Setting", "has", "(I)Z"⟩ ⟨"NestedChecker$Setting", "has", "(I)Z"⟩, .methodLink "NestedChecker" 163 ⟨"NestedChecker$Setting", "has", "(I)Z"⟩, .code ⟨"NestedChecker", "deny", "(I)Z"⟩ cX11_deny 2 (some .boolean), .fieldLink "NestedChecker" 72 "NestedChecker" "lastStatus" "I", .initialized "NestedChecker", .instanceMethod ⟨"NestedChecker", "deny", "(I)Z"⟩, .selects "NestedChecker" ⟨"NestedChecker", "deny", "(I)Z"⟩ ⟨"NestedChecker", "deny", "(I)Z"⟩, .methodLink "NestedChecker" 91 ⟨"NestedChecker", "deny", "(I)Z"⟩] ++ wsX110 ++ wsX50)
set_option maxRecDepth 20000 in
theorem g_c_X11_share_c_X5_has : GoodIn ws_c_X11_share ws_c_X5_has := goodIn_r _ [2, 3, 29, 30, 31, 32, 33, 34, 35] (by decide +kernel) (by decide +kernel)
set_option maxRecDepth 20000 in
theorem g_c_X11_share_c_X11_deny : GoodIn ws_c_X11_share ws_c_X11_deny := goodIn_r _ [8, 9, 14, 15, 16, 17, 18, 19, 20, 21, 22, 23, 24, 25, 26, 27, 28] (by decide +kernel) (by decide +kernel)
set_option maxHeartbeats 4000000 in
set_option maxRecDepth 100000 in
theorem c_X11_share (l : Launch) (D : va_G) (k : jK) (h0 : Nat) (a2 : Nat) (a4 : Nat) (a5 : Nat) (a6 : Nat) (a7 : Nat) (a8 : Nat) (a9 : Nat) (a10 : Nat) (t0 : Nat) (s0 : Nat) (s1 : Nat) (s2 : Nat) (s3 : Nat) (i1 : Int32) (i2 : Int32) (sz : Nat)  : Met l yX11_share ws_c_X11_share ({ frames := 1, cells := 0, slots := 0, locals := 21 }) (jy_P [.ref h0, .int i1, .int i2] D vwCl (jT k) jW [(h0, .inr (10, [.int 0, .long 0, .long 1, .ref t0, .ref a2, .ref s0, .ref a4, .int 0, .ref a5, .ref a6, .ref a7, .ref a8, .ref a9, .ref a10, .int 0])), (s0, .inr (4, [.int 0, .int 0, .int 0, .int 0, .ref s1, .ref s2, .ref s3]))] sz) (va_Qi (fun (r : Int32) (u : Unit) => r = 0) (jy_B D vwCl (va_A [(h0, .inr (10, [.int 0, .long 0, .long 1, .ref t0, .ref a2, .ref s0, .ref a4, .int 0, .ref a5, .ref a6, .ref a7, .ref a8, .ref a9, .ref a10, .int 0])), (s0, .inr (4, [.int 0, .int 0, .int 0, .int 0, .ref s1, .ref s2, .ref s3]))] sz) (fun (u : Unit) => [])) (va_A [(h0, .inr (10, [.int 0, .long 0, .long 1, .ref t0, .ref a2, .ref s0, .ref a4, .int 0, .ref a5, .ref a6, .ref a7, .ref a8, .ref a9, .ref a10, .int 0])), (s0, .inr (4, [.int 0, .int 0, .int 0, .int 0, .ref s1, .ref s2, .ref s3]))] sz)) 0 0 (va_A [(h0, .inr (10, [.int 0, .long 0, .long 1, .ref t0, .ref a2, .ref s0, .ref a4, .int 0, .ref a5, .ref a6, .ref a7, .ref a8, .ref a9, .ref a10, .int 0])), (s0, .inr (4, [.int 0, .int 0, .int 0, .int 0, .ref s1, .ref s2, .ref s3]))] sz) := by
  refine jy_met (cc := cX11_share) (maxL := 4) (ret := (some .boolean)) (lv := [(0, .ref h0), (1, .int i1), (2, .int i2)]) (by decide) rfl (Nat.le_of_ble_eq_true rfl) rfl ?_
  intro p e s m below meth c F hr hlk hnm hN hA
  have hiX11 : ∀ w ∈ u_ws RX11 TX11 15, w ∈ ws_c_X11_share := fun w hw => List.mem_cons_of_mem _ (List.mem_append_left _ (List.mem_append_right _ hw))
  have hiX5 : ∀ w ∈ u_ws RX5 TX5 7, w ∈ ws_c_X11_share := fun w hw => List.mem_cons_of_mem _ (List.mem_append_right _ hw)
  refine jy_aload_n (pc' := 1) F 0 dX11_share_0 rfl rfl rfl ?_
  refine jy_get (pc' := 4) (C := RX11) (T := TX11) (N := 15) (ci := 10) (v := .ref s0) F hiX11 0 rfl rfl 5 (by decide) dX11_share_1 (List.mem_of_getElem? (i := 1) rfl) rfl rfl ?_
  refine jy_iload_n (pc' := 5) F 1 dX11_share_4 rfl rfl rfl ?_
  refine jy_callSi (pc' := 8) (jy_runV (As := [.int i1]) (b := s0) (q0 := 1) (ci := 4) (C := RX5) (T := TX5) (N := 7) (st := []) F hN (fun sz => c_X5_has l D k s0 s1 s2 s3 i1 sz ) (jy_cV F g_c_X11_share_c_X5_has rfl hdX5_has (List.mem_of_getElem? (i := 4) rfl) (List.mem_of_getElem? (i := 7) rfl) (List.mem_of_getElem? (i := 5) rfl) (List.mem_of_getElem? (i := 6) rfl) rfl rfl ⟨by decide, by decide⟩) rfl rfl [1] rfl (by decide) rfl rfl (Nat.le_of_ble_eq_true rfl) dX11_share_5 ⟨by decide, by decide⟩) rfl (fun r_1 e_2 => ?_)
  subst e_2
  refine jy_if_eq (pc' := 11) (tgt := 21) F dX11_share_8 (by decide) rfl (fun _ => ?_) (fun h => absurd h (by decide))
  refine jy_aload_n (pc' := 22) F 0 dX11_share_21 rfl rfl rfl ?_
  refine jy_iconst (pc' := 23) (v := 1) F dX11_share_22 (by decide) rfl ?_
  refine jy_calli (pc' := 26) (cells' := 0) (slots' := 0) (wr := [(s0, .inr (4, [.int 0, .int 0, .int 0, .int 0, .ref s1, .ref s2, .ref s3]))]) hA [0] [1] rfl rfl (by decide) (by decide) (jy_runV (As := [.int 1]) (b := h0) (q0 := 0) (ci := 10) (C := RX11) (T := TX11) (N := 15) (st := []) F hN (fun sz => c_X11_deny l D k h0 0 (.long 0) (.long 1) (.ref t0) (.ref a2) (.ref s0) (.ref a4) (.int 0) (.ref a5) (.ref a6) (.ref a7) (.ref a8) (.ref a9) (.ref a10) (.int 0) 1 sz ) (jy_cV F g_c_X11_share_c_X11_deny rfl hdX11_deny (List.mem_of_getElem? (i := 10) rfl) (List.mem_of_getElem? (i := 13) rfl) (List.mem_of_getElem? (i := 11) rfl) (List.mem_of_getElem? (i := 12) rfl) rfl rfl ⟨by decide, by decide⟩) rfl rfl [0] rfl (by decide) rfl rfl (Nat.le_of_ble_eq_true rfl) dX11_share_23 ⟨by decide, by decide⟩) rfl rfl rfl (fun r_6 u_4 e_5 => ?_)
  subst e_5
  refine jy_widen (cells' := 0) (slots' := 0) (by decide) (by decide) ?_
  exact jy_zret (v := 0) F hr hlk (by first | rfl | decide) () (rfl) [] rfl (by decide) dX11_share_26
abbrev cX11_sample : ByteArray := prog_1_method_44_code
def yX11_sample : MethodName := ⟨RX11, "sample", "(III)Z"⟩
theorem hdX11_sample : yX11_sample.cls ≠ "java/lang/invoke/MethodHandle" ∧ yX11_sample.cls ≠ "java/lang/invoke/VarHandle" ∧ (parseMethodDescriptor yX11_sample.desc).map (fun d => d.parameters.length) = some 3 := by decide +kernel
theorem dX11_sample_0 : decode cX11_sample 0 = .ok (.aload_n 0, 1) := by decide +kernel
theorem dX11_sample_1 : decode cX11_sample 1 = .ok (.getfield 10, 3) := by decide +kernel
theorem dX11_sample_4 : decode cX11_sample 4 = .ok (.iload_n 1, 1) := by decide +kernel
theorem dX11_sample_5 : decode cX11_sample 5 = .ok (.invokevirtual 83, 3) := by decide +kernel
theorem dX11_sample_8 : decode cX11_sample 8 = .ok (.ifCond .eq 24, 3) := by decide +kernel
theorem dX11_sample_11 : decode cX11_sample 11 = .ok (.iload_n 2, 1) := by decide +kernel
theorem dX11_sample_12 : decode cX11_sample 12 = .ok (.iconst 0, 1) := by decide +kernel
theorem dX11_sample_13 : decode cX11_sample 13 = .ok (.bipush 20, 2) := by decide +kernel
theorem dX11_sample_15 : decode cX11_sample 15 = .ok (.invokestatic 87, 3) := by decide +kernel
theorem dX11_sample_18 : decode cX11_sample 18 = .ok (.ifCond .eq 14, 3) := by decide +kernel
theorem dX11_sample_21 : decode cX11_sample 21 = .ok (.iload_n 3, 1) := by decide +kernel
theorem dX11_sample_22 : decode cX11_sample 22 = .ok (.iconst 0, 1) := by decide +kernel
theorem dX11_sample_23 : decode cX11_sample 23 = .ok (.sipush 9999, 3) := by decide +kernel
theorem dX11_sample_26 : decode cX11_sample 26 = .ok (.invokestatic 87, 3) := by decide +kernel
theorem dX11_sample_29 : decode cX11_sample 29 = .ok (.ifCond .ne 9, 3) := by decide +kernel
theorem dX11_sample_32 : decode cX11_sample 32 = .ok (.aload_n 0, 1) := by decide +kernel
theorem dX11_sample_33 : decode cX11_sample 33 = .ok (.iconst 1, 1) := by decide +kernel
theorem dX11_sample_34 : decode cX11_sample 34 = .ok (.invokevirtual 91, 3) := by decide +kernel
theorem dX11_sample_37 : decode cX11_sample 37 = .ok (.ireturn, 1) := by decide +kernel
theorem dX11_sample_38 : decode cX11_sample 38 = .ok (.aload_n 0, 1) := by decide +kernel
theorem dX11_sample_39 : decode cX11_sample 39 = .ok (.getfield 10, 3) := by decide +kernel
theorem dX11_sample_42 : decode cX11_sample 42 = .ok (.iload_n 1, 1) := by decide +kernel
theorem dX11_sample_43 : decode cX11_sample 43 = .ok (.invokevirtual 351, 3) := by decide +kernel
theorem dX11_sample_46 : decode cX11_sample 46 = .ok (.ifCond .eq 9, 3) := by decide +kernel
theorem dX11_sample_49 : decode cX11_sample 49 = .ok (.aload_n 0, 1) := by decide +kernel
theorem dX11_sample_50 : decode cX11_sample 50 = .ok (.iconst 2, 1) := by decide +kernel
theorem dX11_sample_51 : decode cX11_sample 51 = .ok (.invokevirtual 91, 3) := by decide +kernel
theorem dX11_sample_54 : decode cX11_sample 54 = .ok (.ireturn, 1) := by decide +kernel
def ws_c_X11_sample : List Cond := .code yX11_sample cX11_sample 5 (some .boolean) :: ([.fieldLink "NestedChecker" 10 "NestedChecker" "trays" "LNestedChecker$Trays;", .code ⟨"NestedChecker$Trays", "has", "(I)Z"⟩ cX9_has 2 (some .boolean), .code ⟨"NestedChecker", "within", "(III)Z"⟩ cX11_within 3 (some .boolean), .initialized "NestedChecker", .static ⟨"NestedChecker", "within", "(III)Z"⟩, .initialized "NestedChecker$Trays", .instanceMethod ⟨"NestedChecker$Trays", "has", "(I)Z"⟩, .selects "NestedChecker$Trays" ⟨"NestedChecker$Trays", "has", "(I)Z"⟩ ⟨"NestedChecker$Trays", "has", "(I)Z"⟩, .methodLink "NestedChecker" 83 ⟨"NestedChecker$Trays", "has", "(I)Z"⟩, .methodLink "NestedChecker" 87 ⟨"NestedChecker", "within", "(III)Z"⟩, .code ⟨"NestedChecker$Trays", "isMissing", "(I)Z"⟩ cX9_isMissing 2 (some .boolean), .fieldLink "NestedChecker$Trays" 19 "NestedChecker$Trays" "places" "[I", .instanceMethod ⟨"NestedChecker$Trays", "isMissing", "(I)Z"⟩, .selects "NestedChecker$Trays" ⟨"NestedChecker$Trays", "isMissing", "(I)Z"⟩ ⟨"NestedChecker$Trays", "isMissing", "(I)Z"⟩, .methodLink "NestedChecker" 351 ⟨"NestedChecker$Trays", "isMissing", "(I)Z"⟩, .code ⟨"NestedChecker", "deny", "(I)Z"⟩ cX11_deny 2 (some .boolean), .fieldLink "NestedChecker" 72 "NestedChecker" "lastStatus" "I", .instanceMethod ⟨"NestedChecker", "deny", "(I)Z"⟩, .selects "NestedChecker" ⟨"NestedChecker", "deny", "(I)Z"⟩ ⟨"NestedChecker", "deny", "(I)Z"⟩, .methodLink "NestedChecker" 91 ⟨"NestedChecker", "deny", "(I)Z"⟩] ++ wsX110 ++ wsX90)
set_option maxRecDepth 20000 in
theorem g_c_X11_sample_c_X9_has : GoodIn ws_c_X11_sample ws_c_X9_has := goodIn_r _ [2, 3, 4, 5] (by decide +kernel) (by decide +kernel)
set_option maxRecDepth 20000 in
theorem g_c_X11_sample_c_X11_within : GoodIn ws_c_X11_sample ws_c_X11_within := goodIn_r _ [3] (by decide +kernel) (by decide +kernel)
set_option maxRecDepth 20000 in
theorem g_c_X11_sample_c_X9_isMissing : GoodIn ws_c_X11_sample ws_c_X9_isMissing := goodIn_r _ [11, 12, 36, 37, 38] (by decide +kernel) (by decide +kernel)
set_option maxRecDepth 20000 in
theorem g_c_X11_sample_c_X11_deny : GoodIn ws_c_X11_sample ws_c_X11_deny := goodIn_r _ [16, 17, 21, 22, 23, 24, 25, 26, 27, 28, 29, 30, 31, 32, 33, 34, 35] (by decide +kernel) (by decide +kernel)
set_option maxHeartbeats 4000000 in
set_option maxRecDepth 100000 in
theorem c_X11_sample (l : Launch) (D : va_G) (k : jK) (h0 : Nat) (a2 : Nat) (a4 : Nat) (a5 : Nat) (a6 : Nat) (a7 : Nat) (a8 : Nat) (a9 : Nat) (a10 : Nat) (t0 : Nat) (s0 : Nat) (t1 : Nat) (t2 : Nat) (t3 : Nat) (fp : Nat → Int32) (i1 : Int32) (i2 : Int32) (i3 : Int32) (sz : Nat) (hp : ∀ j, j < 4 → fp j = -1) : Met l yX11_sample ws_c_X11_sample ({ frames := 2, cells := 0, slots := 0, locals := 43 }) (jy_P [.ref h0, .int i1, .int i2, .int i3] D vwCl (jT k) jW [(h0, .inr (10, [.int 0, .long 0, .long 1, .ref t0, .ref a2, .ref s0, .ref a4, .int 0, .ref a5, .ref a6, .ref a7, .ref a8, .ref a9, .ref a10, .int 0])), (t0, .inr (8, [.ref t1, .ref t2, .ref t3])), (t3, .inl (k.2.1, 4, .inl fp))] sz) (va_Qi (fun (r : Int32) (u : Unit) => r = 0) (jy_B D vwCl (va_A [(h0, .inr (10, [.int 0, .long 0, .long 1, .ref t0, .ref a2, .ref s0, .ref a4, .int 0, .ref a5, .ref a6, .ref a7, .ref a8, .ref a9, .ref a10, .int 0])), (t0, .inr (8, [.ref t1, .ref t2, .ref t3])), (t3, .inl (k.2.1, 4, .inl fp))] sz) (fun (u : Unit) => [])) (va_A [(h0, .inr (10, [.int 0, .long 0, .long 1, .ref t0, .ref a2, .ref s0, .ref a4, .int 0, .ref a5, .ref a6, .ref a7, .ref a8, .ref a9, .ref a10, .int 0])), (t0, .inr (8, [.ref t1, .ref t2, .ref t3])), (t3, .inl (k.2.1, 4, .inl fp))] sz)) 0 0 (va_A [(h0, .inr (10, [.int 0, .long 0, .long 1, .ref t0, .ref a2, .ref s0, .ref a4, .int 0, .ref a5, .ref a6, .ref a7, .ref a8, .ref a9, .ref a10, .int 0])), (t0, .inr (8, [.ref t1, .ref t2, .ref t3])), (t3, .inl (k.2.1, 4, .inl fp))] sz) := by
  refine jy_met (cc := cX11_sample) (maxL := 5) (ret := (some .boolean)) (lv := [(0, .ref h0), (1, .int i1), (2, .int i2), (3, .int i3)]) (by decide) rfl (Nat.le_of_ble_eq_true rfl) rfl ?_
  intro p e s m below meth c F hr hlk hnm hN hA
  have hiX11 : ∀ w ∈ u_ws RX11 TX11 15, w ∈ ws_c_X11_sample := fun w hw => List.mem_cons_of_mem _ (List.mem_append_left _ (List.mem_append_right _ hw))
  have hiX9 : ∀ w ∈ u_ws RX9 TX9 3, w ∈ ws_c_X11_sample := fun w hw => List.mem_cons_of_mem _ (List.mem_append_right _ hw)
  refine jy_aload_n (pc' := 1) F 0 dX11_sample_0 rfl rfl rfl ?_
  refine jy_get (pc' := 4) (C := RX11) (T := TX11) (N := 15) (ci := 10) (v := .ref t0) F hiX11 0 rfl rfl 3 (by decide) dX11_sample_1 (List.mem_of_getElem? (i := 1) rfl) rfl rfl ?_
  refine jy_iload_n (pc' := 5) F 1 dX11_sample_4 rfl rfl rfl ?_
  refine jy_callSi (pc' := 8) (jy_runV (As := [.int i1]) (b := t0) (q0 := 1) (ci := 8) (C := RX9) (T := TX9) (N := 3) (st := []) F hN (fun sz => c_X9_has l D k t0 t1 t2 t3 i1 sz ) (jy_cV F g_c_X11_sample_c_X9_has rfl hdX9_has (List.mem_of_getElem? (i := 6) rfl) (List.mem_of_getElem? (i := 9) rfl) (List.mem_of_getElem? (i := 7) rfl) (List.mem_of_getElem? (i := 8) rfl) rfl rfl ⟨by decide, by decide⟩) rfl rfl [1] rfl (by decide) rfl rfl (Nat.le_of_ble_eq_true rfl) dX11_sample_5 ⟨by decide, by decide⟩) rfl (fun r_1 e_2 => ?_)
  rcases e_2 with ⟨z_4, h_3⟩ | ⟨z_5, h_3⟩
  · subst z_4
    refine jy_if_eq (pc' := 11) (tgt := 32) F dX11_sample_8 (by decide) rfl (fun h => absurd h (by decide)) (fun _ => ?_)
    refine jy_iload_n (pc' := 12) F 2 dX11_sample_11 rfl rfl rfl ?_
    refine jy_iconst (pc' := 13) (v := 0) F dX11_sample_12 (by decide) rfl ?_
    refine jy_bipush (pc' := 15) (v := 20) F dX11_sample_13 (by decide) rfl ?_
    refine jy_callSi (pc' := 18) (jy_runS (As := [.int i2, .int 0, .int 20]) (st := []) F hN (fun sz => c_X11_within l D k i2 0 20 sz ) (jy_cS F g_c_X11_sample_c_X11_within rfl hdX11_within (List.mem_of_getElem? (i := 4) rfl) (List.mem_of_getElem? (i := 10) rfl) (List.mem_of_getElem? (i := 5) rfl) rfl rfl ⟨by decide, by decide⟩) [] rfl (by decide) rfl rfl (Nat.le_of_ble_eq_true rfl) dX11_sample_15 ⟨by decide, by decide⟩) rfl (fun r_7 e_8 => ?_)
    rcases e_8 with ⟨z_10, h_9⟩ | ⟨z_11, h_9⟩
    · subst z_10
      refine jy_if_eq (pc' := 21) (tgt := 32) F dX11_sample_18 (by decide) rfl (fun h => absurd h (by decide)) (fun _ => ?_)
      refine jy_iload_n (pc' := 22) F 3 dX11_sample_21 rfl rfl rfl ?_
      refine jy_iconst (pc' := 23) (v := 0) F dX11_sample_22 (by decide) rfl ?_
      refine jy_sipush (pc' := 26) (v := 9999) F dX11_sample_23 (by decide) rfl ?_
      refine jy_callSi (pc' := 29) (jy_runS (As := [.int i3, .int 0, .int 9999]) (st := []) F hN (fun sz => c_X11_within l D k i3 0 9999 sz ) (jy_cS F g_c_X11_sample_c_X11_within rfl hdX11_within (List.mem_of_getElem? (i := 4) rfl) (List.mem_of_getElem? (i := 10) rfl) (List.mem_of_getElem? (i := 5) rfl) rfl rfl ⟨by decide, by decide⟩) [] rfl (by decide) rfl rfl (Nat.le_of_ble_eq_true rfl) dX11_sample_26 ⟨by decide, by decide⟩) rfl (fun r_13 e_14 => ?_)
      rcases e_14 with ⟨z_16, h_15⟩ | ⟨z_17, h_15⟩
      · subst z_16
        refine jy_if_ne (pc' := 32) (tgt := 38) F dX11_sample_29 (by decide) rfl (fun _ => ?_) (fun h => absurd h (by decide))
        obtain ⟨tt, htt, rfl⟩ := nI_of2 (M := 3) (n := 3) rfl h_3.1 (Int32.not_lt.mp h_3.2)
        refine jy_aload_n (pc' := 39) F 0 dX11_sample_38 rfl rfl rfl ?_
        refine jy_get (pc' := 42) (C := RX11) (T := TX11) (N := 15) (ci := 10) (v := .ref t0) F hiX11 0 rfl rfl 3 (by decide) dX11_sample_39 (List.mem_of_getElem? (i := 1) rfl) rfl rfl ?_
        refine jy_iload_n (pc' := 43) F 1 dX11_sample_42 rfl rfl rfl ?_
        refine jy_callSi (pc' := 46) (jy_runV (As := [.int (nI tt)]) (b := t0) (q0 := 1) (ci := 8) (C := RX9) (T := TX9) (N := 3) (st := []) F hN (fun sz => c_X9_isMissing l D k t0 t1 t2 t3 fp tt sz (hp) (by omega)) (jy_cV F g_c_X11_sample_c_X9_isMissing rfl hdX9_isMissing (List.mem_of_getElem? (i := 6) rfl) (List.mem_of_getElem? (i := 15) rfl) (List.mem_of_getElem? (i := 13) rfl) (List.mem_of_getElem? (i := 14) rfl) rfl rfl ⟨by decide, by decide⟩) rfl rfl [1, 2] rfl (by decide) rfl rfl (Nat.le_of_ble_eq_true rfl) dX11_sample_43 ⟨by decide, by decide⟩) rfl (fun r_19 e_20 => ?_)
        subst e_20
        refine jy_if_eq (pc' := 49) (tgt := 55) F dX11_sample_46 (by decide) rfl (fun h => absurd h (by decide)) (fun _ => ?_)
        refine jy_aload_n (pc' := 50) F 0 dX11_sample_49 rfl rfl rfl ?_
        refine jy_iconst (pc' := 51) (v := 2) F dX11_sample_50 (by decide) rfl ?_
        refine jy_calli (pc' := 54) (cells' := 0) (slots' := 0) (wr := [(t0, .inr (8, [.ref t1, .ref t2, .ref t3])), (t3, .inl (k.2.1, 4, .inl fp))]) hA [0] [1, 2] rfl rfl (by decide) (by decide) (jy_runV (As := [.int 2]) (b := h0) (q0 := 0) (ci := 10) (C := RX11) (T := TX11) (N := 15) (st := []) F hN (fun sz => c_X11_deny l D k h0 0 (.long 0) (.long 1) (.ref t0) (.ref a2) (.ref s0) (.ref a4) (.int 0) (.ref a5) (.ref a6) (.ref a7) (.ref a8) (.ref a9) (.ref a10) (.int 0) 2 sz ) (jy_cV F g_c_X11_sample_c_X11_deny rfl hdX11_deny (List.mem_of_getElem? (i := 4) rfl) (List.mem_of_getElem? (i := 20) rfl) (List.mem_of_getElem? (i := 18) rfl) (List.mem_of_getElem? (i := 19) rfl) rfl rfl ⟨by decide, by decide⟩) rfl rfl [0] rfl (by decide) rfl rfl (Nat.le_of_ble_eq_true rfl) dX11_sample_51 ⟨by decide, by decide⟩) rfl rfl rfl (fun r_24 u_22 e_23 => ?_)
        subst e_23
        refine jy_widen (cells' := 0) (slots' := 0) (by decide) (by decide) ?_
        exact jy_zret (v := 0) F hr hlk (by first | rfl | decide) () (rfl) [] rfl (by decide) dX11_sample_54
      · subst z_17
        refine jy_if_ne (pc' := 32) (tgt := 38) F dX11_sample_29 (by decide) rfl (fun h => absurd h (by decide)) (fun _ => ?_)
        refine jy_aload_n (pc' := 33) F 0 dX11_sample_32 rfl rfl rfl ?_
        refine jy_iconst (pc' := 34) (v := 1) F dX11_sample_33 (by decide) rfl ?_
        refine jy_calli (pc' := 37) (cells' := 0) (slots' := 0) (wr := [(t0, .inr (8, [.ref t1, .ref t2, .ref t3])), (t3, .inl (k.2.1, 4, .inl fp))]) hA [0] [1, 2] rfl rfl (by decide) (by decide) (jy_runV (As := [.int 1]) (b := h0) (q0 := 0) (ci := 10) (C := RX11) (T := TX11) (N := 15) (st := []) F hN (fun sz => c_X11_deny l D k h0 0 (.long 0) (.long 1) (.ref t0) (.ref a2) (.ref s0) (.ref a4) (.int 0) (.ref a5) (.ref a6) (.ref a7) (.ref a8) (.ref a9) (.ref a10) (.int 0) 1 sz ) (jy_cV F g_c_X11_sample_c_X11_deny rfl hdX11_deny (List.mem_of_getElem? (i := 4) rfl) (List.mem_of_getElem? (i := 20) rfl) (List.mem_of_getElem? (i := 18) rfl) (List.mem_of_getElem? (i := 19) rfl) rfl rfl ⟨by decide, by decide⟩) rfl rfl [0] rfl (by decide) rfl rfl (Nat.le_of_ble_eq_true rfl) dX11_sample_34 ⟨by decide, by decide⟩) rfl rfl rfl (fun r_28 u_26 e_27 => ?_)
        subst e_27
        refine jy_widen (cells' := 0) (slots' := 0) (by decide) (by decide) ?_
        exact jy_zret (v := 0) F hr hlk (by first | rfl | decide) () (rfl) [] rfl (by decide) dX11_sample_37
    · subst z_11
      refine jy_if_eq (pc' := 21) (tgt := 32) F dX11_sample_18 (by decide) rfl (fun _ => ?_) (fun h => absurd h (by decide))
      refine jy_aload_n (pc' := 33) F 0 dX11_sample_32 rfl rfl rfl ?_
      refine jy_iconst (pc' := 34) (v := 1) F dX11_sample_33 (by decide) rfl ?_
      refine jy_calli (pc' := 37) (cells' := 0) (slots' := 0) (wr := [(t0, .inr (8, [.ref t1, .ref t2, .ref t3])), (t3, .inl (k.2.1, 4, .inl fp))]) hA [0] [1, 2] rfl rfl (by decide) (by decide) (jy_runV (As := [.int 1]) (b := h0) (q0 := 0) (ci := 10) (C := RX11) (T := TX11) (N := 15) (st := []) F hN (fun sz => c_X11_deny l D k h0 0 (.long 0) (.long 1) (.ref t0) (.ref a2) (.ref s0) (.ref a4) (.int 0) (.ref a5) (.ref a6) (.ref a7) (.ref a8) (.ref a9) (.ref a10) (.int 0) 1 sz ) (jy_cV F g_c_X11_sample_c_X11_deny rfl hdX11_deny (List.mem_of_getElem? (i := 4) rfl) (List.mem_of_getElem? (i := 20) rfl) (List.mem_of_getElem? (i := 18) rfl) (List.mem_of_getElem? (i := 19) rfl) rfl rfl ⟨by decide, by decide⟩) rfl rfl [0] rfl (by decide) rfl rfl (Nat.le_of_ble_eq_true rfl) dX11_sample_34 ⟨by decide, by decide⟩) rfl rfl rfl (fun r_32 u_30 e_31 => ?_)
      subst e_31
      refine jy_widen (cells' := 0) (slots' := 0) (by decide) (by decide) ?_
      exact jy_zret (v := 0) F hr hlk (by first | rfl | decide) () (rfl) [] rfl (by decide) dX11_sample_37
  · subst z_5
    refine jy_if_eq (pc' := 11) (tgt := 32) F dX11_sample_8 (by decide) rfl (fun _ => ?_) (fun h => absurd h (by decide))
    refine jy_aload_n (pc' := 33) F 0 dX11_sample_32 rfl rfl rfl ?_
    refine jy_iconst (pc' := 34) (v := 1) F dX11_sample_33 (by decide) rfl ?_
    refine jy_calli (pc' := 37) (cells' := 0) (slots' := 0) (wr := [(t0, .inr (8, [.ref t1, .ref t2, .ref t3])), (t3, .inl (k.2.1, 4, .inl fp))]) hA [0] [1, 2] rfl rfl (by decide) (by decide) (jy_runV (As := [.int 1]) (b := h0) (q0 := 0) (ci := 10) (C := RX11) (T := TX11) (N := 15) (st := []) F hN (fun sz => c_X11_deny l D k h0 0 (.long 0) (.long 1) (.ref t0) (.ref a2) (.ref s0) (.ref a4) (.int 0) (.ref a5) (.ref a6) (.ref a7) (.ref a8) (.ref a9) (.ref a10) (.int 0) 1 sz ) (jy_cV F g_c_X11_sample_c_X11_deny rfl hdX11_deny (List.mem_of_getElem? (i := 4) rfl) (List.mem_of_getElem? (i := 20) rfl) (List.mem_of_getElem? (i := 18) rfl) (List.mem_of_getElem? (i := 19) rfl) rfl rfl ⟨by decide, by decide⟩) rfl rfl [0] rfl (by decide) rfl rfl (Nat.le_of_ble_eq_true rfl) dX11_sample_34 ⟨by decide, by decide⟩) rfl rfl rfl (fun r_36 u_34 e_35 => ?_)
    subst e_35
    refine jy_widen (cells' := 0) (slots' := 0) (by decide) (by decide) ?_
    exact jy_zret (v := 0) F hr hlk (by first | rfl | decide) () (rfl) [] rfl (by decide) dX11_sample_37
abbrev cX11_chance : ByteArray := prog_1_method_45_code
def yX11_chance : MethodName := ⟨RX11, "chance", "(IIII)Z"⟩
theorem hdX11_chance : yX11_chance.cls ≠ "java/lang/invoke/MethodHandle" ∧ yX11_chance.cls ≠ "java/lang/invoke/VarHandle" ∧ (parseMethodDescriptor yX11_chance.desc).map (fun d => d.parameters.length) = some 4 := by decide +kernel
theorem dX11_chance_0 : decode cX11_chance 0 = .ok (.aload_n 0, 1) := by decide +kernel
theorem dX11_chance_1 : decode cX11_chance 1 = .ok (.getfield 26, 3) := by decide +kernel
theorem dX11_chance_4 : decode cX11_chance 4 = .ok (.iload_n 1, 1) := by decide +kernel
theorem dX11_chance_5 : decode cX11_chance 5 = .ok (.invokevirtual 163, 3) := by decide +kernel
theorem dX11_chance_8 : decode cX11_chance 8 = .ok (.ifCond .eq 35, 3) := by decide +kernel
theorem dX11_chance_43 : decode cX11_chance 43 = .ok (.aload_n 0, 1) := by decide +kernel
theorem dX11_chance_44 : decode cX11_chance 44 = .ok (.iconst 1, 1) := by decide +kernel
theorem dX11_chance_45 : decode cX11_chance 45 = .ok (.invokevirtual 91, 3) := by decide +kernel
theorem dX11_chance_48 : decode cX11_chance 48 = .ok (.ireturn, 1) := by decide +kernel
def ws_c_X11_chance : List Cond := .code yX11_chance cX11_chance 8 (some .boolean) :: ([.fieldLink "NestedChecker" 26 "NestedChecker" "live" "LNestedChecker$Setting;", .code ⟨"NestedChecker$Setting", "has", "(I)Z"⟩ cX5_has 2 (some .boolean), .fieldLink "NestedChecker$Setting" 38 "NestedChecker$Setting" "automata" "I", .initialized "NestedChecker$Setting", .instanceMethod ⟨"NestedChecker$Setting", "has", "(I)Z"⟩, .selects "NestedChecker$Setting" ⟨"NestedChecker$Setting", "has", "(I)Z"⟩ ⟨"NestedChecker$Setting", "has", "(I)Z"⟩, .methodLink "NestedChecker" 163 ⟨"NestedChecker$Setting", "has", "(I)Z"⟩, .code ⟨"NestedChecker", "deny", "(I)Z"⟩ cX11_deny 2 (some .boolean), .fieldLink "NestedChecker" 72 "NestedChecker" "lastStatus" "I", .initialized "NestedChecker", .instanceMethod ⟨"NestedChecker", "deny", "(I)Z"⟩, .selects "NestedChecker" ⟨"NestedChecker", "deny", "(I)Z"⟩ ⟨"NestedChecker", "deny", "(I)Z"⟩, .methodLink "NestedChecker" 91 ⟨"NestedChecker", "deny", "(I)Z"⟩] ++ wsX110 ++ wsX50)
set_option maxRecDepth 20000 in
theorem g_c_X11_chance_c_X5_has : GoodIn ws_c_X11_chance ws_c_X5_has := goodIn_r _ [2, 3, 29, 30, 31, 32, 33, 34, 35] (by decide +kernel) (by decide +kernel)
set_option maxRecDepth 20000 in
theorem g_c_X11_chance_c_X11_deny : GoodIn ws_c_X11_chance ws_c_X11_deny := goodIn_r _ [8, 9, 14, 15, 16, 17, 18, 19, 20, 21, 22, 23, 24, 25, 26, 27, 28] (by decide +kernel) (by decide +kernel)
set_option maxHeartbeats 4000000 in
set_option maxRecDepth 100000 in
theorem c_X11_chance (l : Launch) (D : va_G) (k : jK) (h0 : Nat) (a2 : Nat) (a4 : Nat) (a5 : Nat) (a6 : Nat) (a7 : Nat) (a8 : Nat) (a9 : Nat) (a10 : Nat) (t0 : Nat) (s0 : Nat) (s1 : Nat) (s2 : Nat) (s3 : Nat) (i1 : Int32) (i2 : Int32) (i3 : Int32) (i4 : Int32) (sz : Nat)  : Met l yX11_chance ws_c_X11_chance ({ frames := 1, cells := 0, slots := 0, locals := 21 }) (jy_P [.ref h0, .int i1, .int i2, .int i3, .int i4] D vwCl (jT k) jW [(h0, .inr (10, [.int 0, .long 0, .long 1, .ref t0, .ref a2, .ref s0, .ref a4, .int 0, .ref a5, .ref a6, .ref a7, .ref a8, .ref a9, .ref a10, .int 0])), (s0, .inr (4, [.int 0, .int 0, .int 0, .int 0, .ref s1, .ref s2, .ref s3]))] sz) (va_Qi (fun (r : Int32) (u : Unit) => r = 0) (jy_B D vwCl (va_A [(h0, .inr (10, [.int 0, .long 0, .long 1, .ref t0, .ref a2, .ref s0, .ref a4, .int 0, .ref a5, .ref a6, .ref a7, .ref a8, .ref a9, .ref a10, .int 0])), (s0, .inr (4, [.int 0, .int 0, .int 0, .int 0, .ref s1, .ref s2, .ref s3]))] sz) (fun (u : Unit) => [])) (va_A [(h0, .inr (10, [.int 0, .long 0, .long 1, .ref t0, .ref a2, .ref s0, .ref a4, .int 0, .ref a5, .ref a6, .ref a7, .ref a8, .ref a9, .ref a10, .int 0])), (s0, .inr (4, [.int 0, .int 0, .int 0, .int 0, .ref s1, .ref s2, .ref s3]))] sz)) 0 0 (va_A [(h0, .inr (10, [.int 0, .long 0, .long 1, .ref t0, .ref a2, .ref s0, .ref a4, .int 0, .ref a5, .ref a6, .ref a7, .ref a8, .ref a9, .ref a10, .int 0])), (s0, .inr (4, [.int 0, .int 0, .int 0, .int 0, .ref s1, .ref s2, .ref s3]))] sz) := by
  refine jy_met (cc := cX11_chance) (maxL := 8) (ret := (some .boolean)) (lv := [(0, .ref h0), (1, .int i1), (2, .int i2), (3, .int i3), (4, .int i4)]) (by decide) rfl (Nat.le_of_ble_eq_true rfl) rfl ?_
  intro p e s m below meth c F hr hlk hnm hN hA
  have hiX11 : ∀ w ∈ u_ws RX11 TX11 15, w ∈ ws_c_X11_chance := fun w hw => List.mem_cons_of_mem _ (List.mem_append_left _ (List.mem_append_right _ hw))
  have hiX5 : ∀ w ∈ u_ws RX5 TX5 7, w ∈ ws_c_X11_chance := fun w hw => List.mem_cons_of_mem _ (List.mem_append_right _ hw)
  refine jy_aload_n (pc' := 1) F 0 dX11_chance_0 rfl rfl rfl ?_
  refine jy_get (pc' := 4) (C := RX11) (T := TX11) (N := 15) (ci := 10) (v := .ref s0) F hiX11 0 rfl rfl 5 (by decide) dX11_chance_1 (List.mem_of_getElem? (i := 1) rfl) rfl rfl ?_
  refine jy_iload_n (pc' := 5) F 1 dX11_chance_4 rfl rfl rfl ?_
  refine jy_callSi (pc' := 8) (jy_runV (As := [.int i1]) (b := s0) (q0 := 1) (ci := 4) (C := RX5) (T := TX5) (N := 7) (st := []) F hN (fun sz => c_X5_has l D k s0 s1 s2 s3 i1 sz ) (jy_cV F g_c_X11_chance_c_X5_has rfl hdX5_has (List.mem_of_getElem? (i := 4) rfl) (List.mem_of_getElem? (i := 7) rfl) (List.mem_of_getElem? (i := 5) rfl) (List.mem_of_getElem? (i := 6) rfl) rfl rfl ⟨by decide, by decide⟩) rfl rfl [1] rfl (by decide) rfl rfl (Nat.le_of_ble_eq_true rfl) dX11_chance_5 ⟨by decide, by decide⟩) rfl (fun r_1 e_2 => ?_)
  subst e_2
  refine jy_if_eq (pc' := 11) (tgt := 43) F dX11_chance_8 (by decide) rfl (fun _ => ?_) (fun h => absurd h (by decide))
  refine jy_aload_n (pc' := 44) F 0 dX11_chance_43 rfl rfl rfl ?_
  refine jy_iconst (pc' := 45) (v := 1) F dX11_chance_44 (by decide) rfl ?_
  refine jy_calli (pc' := 48) (cells' := 0) (slots' := 0) (wr := [(s0, .inr (4, [.int 0, .int 0, .int 0, .int 0, .ref s1, .ref s2, .ref s3]))]) hA [0] [1] rfl rfl (by decide) (by decide) (jy_runV (As := [.int 1]) (b := h0) (q0 := 0) (ci := 10) (C := RX11) (T := TX11) (N := 15) (st := []) F hN (fun sz => c_X11_deny l D k h0 0 (.long 0) (.long 1) (.ref t0) (.ref a2) (.ref s0) (.ref a4) (.int 0) (.ref a5) (.ref a6) (.ref a7) (.ref a8) (.ref a9) (.ref a10) (.int 0) 1 sz ) (jy_cV F g_c_X11_chance_c_X11_deny rfl hdX11_deny (List.mem_of_getElem? (i := 10) rfl) (List.mem_of_getElem? (i := 13) rfl) (List.mem_of_getElem? (i := 11) rfl) (List.mem_of_getElem? (i := 12) rfl) rfl rfl ⟨by decide, by decide⟩) rfl rfl [0] rfl (by decide) rfl rfl (Nat.le_of_ble_eq_true rfl) dX11_chance_45 ⟨by decide, by decide⟩) rfl rfl rfl (fun r_6 u_4 e_5 => ?_)
  subst e_5
  refine jy_widen (cells' := 0) (slots' := 0) (by decide) (by decide) ?_
  exact jy_zret (v := 0) F hr hlk (by first | rfl | decide) () (rfl) [] rfl (by decide) dX11_chance_48
abbrev cX11_seen : ByteArray := prog_1_method_48_code
def yX11_seen : MethodName := ⟨RX11, "seen", "(I)I"⟩
theorem hdX11_seen : yX11_seen.cls ≠ "java/lang/invoke/MethodHandle" ∧ yX11_seen.cls ≠ "java/lang/invoke/VarHandle" ∧ (parseMethodDescriptor yX11_seen.desc).map (fun d => d.parameters.length) = some 1 := by decide +kernel
theorem dX11_seen_0 : decode cX11_seen 0 = .ok (.iload_n 1, 1) := by decide +kernel
theorem dX11_seen_1 : decode cX11_seen 1 = .ok (.iconst 0, 1) := by decide +kernel
theorem dX11_seen_2 : decode cX11_seen 2 = .ok (.iconst 4, 1) := by decide +kernel
theorem dX11_seen_3 : decode cX11_seen 3 = .ok (.invokestatic 87, 3) := by decide +kernel
theorem dX11_seen_6 : decode cX11_seen 6 = .ok (.ifCond .ne 9, 3) := by decide +kernel
theorem dX11_seen_9 : decode cX11_seen 9 = .ok (.aload_n 0, 1) := by decide +kernel
theorem dX11_seen_10 : decode cX11_seen 10 = .ok (.iconst 1, 1) := by decide +kernel
theorem dX11_seen_11 : decode cX11_seen 11 = .ok (.invokevirtual 110, 3) := by decide +kernel
theorem dX11_seen_14 : decode cX11_seen 14 = .ok (.ireturn, 1) := by decide +kernel
theorem dX11_seen_15 : decode cX11_seen 15 = .ok (.aload_n 0, 1) := by decide +kernel
theorem dX11_seen_16 : decode cX11_seen 16 = .ok (.getfield 26, 3) := by decide +kernel
theorem dX11_seen_19 : decode cX11_seen 19 = .ok (.getfield 367, 3) := by decide +kernel
theorem dX11_seen_22 : decode cX11_seen 22 = .ok (.astore_n 2, 1) := by decide +kernel
theorem dX11_seen_23 : decode cX11_seen 23 = .ok (.aload_n 2, 1) := by decide +kernel
theorem dX11_seen_24 : decode cX11_seen 24 = .ok (.getfield 372, 3) := by decide +kernel
theorem dX11_seen_27 : decode cX11_seen 27 = .ok (.iconst (-1), 1) := by decide +kernel
theorem dX11_seen_28 : decode cX11_seen 28 = .ok (.if_icmp .ne 10, 3) := by decide +kernel
theorem dX11_seen_31 : decode cX11_seen 31 = .ok (.aload_n 0, 1) := by decide +kernel
theorem dX11_seen_32 : decode cX11_seen 32 = .ok (.bipush 6, 2) := by decide +kernel
theorem dX11_seen_34 : decode cX11_seen 34 = .ok (.invokevirtual 110, 3) := by decide +kernel
theorem dX11_seen_37 : decode cX11_seen 37 = .ok (.ireturn, 1) := by decide +kernel
def ws_c_X11_seen : List Cond := .code yX11_seen cX11_seen 3 (some .int) :: ([.code ⟨"NestedChecker", "within", "(III)Z"⟩ cX11_within 3 (some .boolean), .initialized "NestedChecker", .static ⟨"NestedChecker", "within", "(III)Z"⟩, .methodLink "NestedChecker" 87 ⟨"NestedChecker", "within", "(III)Z"⟩, .fieldLink "NestedChecker" 26 "NestedChecker" "live" "LNestedChecker$Setting;", .fieldLink "NestedChecker" 367 "NestedChecker$Setting" "monitor" "LNestedChecker$Walk;", .fieldLink "NestedChecker" 372 "NestedChecker$Walk" "watched" "I", .code ⟨"NestedChecker", "refuse", "(I)I"⟩ cX11_refuse 2 (some .int), .fieldLink "NestedChecker" 72 "NestedChecker" "lastStatus" "I", .instanceMethod ⟨"NestedChecker", "refuse", "(I)I"⟩, .selects "NestedChecker" ⟨"NestedChecker", "refuse", "(I)I"⟩ ⟨"NestedChecker", "refuse", "(I)I"⟩, .methodLink "NestedChecker" 110 ⟨"NestedChecker", "refuse", "(I)I"⟩] ++ wsX110 ++ wsX50 ++ wsX100)
set_option maxRecDepth 20000 in
theorem g_c_X11_seen_c_X11_within : GoodIn ws_c_X11_seen ws_c_X11_within := goodIn_r _ [1] (by decide +kernel) (by decide +kernel)
set_option maxRecDepth 20000 in
theorem g_c_X11_seen_c_X11_refuse : GoodIn ws_c_X11_seen ws_c_X11_refuse := goodIn_r _ [8, 9, 13, 14, 15, 16, 17, 18, 19, 20, 21, 22, 23, 24, 25, 26, 27] (by decide +kernel) (by decide +kernel)
set_option maxHeartbeats 4000000 in
set_option maxRecDepth 100000 in
theorem c_X11_seen (l : Launch) (D : va_G) (k : jK) (h0 : Nat) (a2 : Nat) (a4 : Nat) (a5 : Nat) (a6 : Nat) (a7 : Nat) (a8 : Nat) (a9 : Nat) (a10 : Nat) (t0 : Nat) (s0 : Nat) (s1 : Nat) (s2 : Nat) (s3 : Nat) (m1 : Nat) (m2 : Nat) (m3 : Nat) (i1 : Int32) (sz : Nat)  : Met l yX11_seen ws_c_X11_seen ({ frames := 1, cells := 0, slots := 0, locals := 22 }) (jy_P [.ref h0, .int i1] D vwCl (jT k) jW [(h0, .inr (10, [.int 0, .long 0, .long 1, .ref t0, .ref a2, .ref s0, .ref a4, .int 0, .ref a5, .ref a6, .ref a7, .ref a8, .ref a9, .ref a10, .int 0])), (s0, .inr (4, [.int 0, .int 0, .int 0, .int 0, .ref s1, .ref s2, .ref s3])), (s3, .inr (9, [.int (-1), .int 0, .int 0, .int 0, .int 0, .ref m1, .ref m2, .ref m3]))] sz) (va_Qi (fun (r : Int32) (u : Unit) => r = -1) (jy_B D vwCl (va_A [(h0, .inr (10, [.int 0, .long 0, .long 1, .ref t0, .ref a2, .ref s0, .ref a4, .int 0, .ref a5, .ref a6, .ref a7, .ref a8, .ref a9, .ref a10, .int 0])), (s0, .inr (4, [.int 0, .int 0, .int 0, .int 0, .ref s1, .ref s2, .ref s3])), (s3, .inr (9, [.int (-1), .int 0, .int 0, .int 0, .int 0, .ref m1, .ref m2, .ref m3]))] sz) (fun (u : Unit) => [])) (va_A [(h0, .inr (10, [.int 0, .long 0, .long 1, .ref t0, .ref a2, .ref s0, .ref a4, .int 0, .ref a5, .ref a6, .ref a7, .ref a8, .ref a9, .ref a10, .int 0])), (s0, .inr (4, [.int 0, .int 0, .int 0, .int 0, .ref s1, .ref s2, .ref s3])), (s3, .inr (9, [.int (-1), .int 0, .int 0, .int 0, .int 0, .ref m1, .ref m2, .ref m3]))] sz)) 0 0 (va_A [(h0, .inr (10, [.int 0, .long 0, .long 1, .ref t0, .ref a2, .ref s0, .ref a4, .int 0, .ref a5, .ref a6, .ref a7, .ref a8, .ref a9, .ref a10, .int 0])), (s0, .inr (4, [.int 0, .int 0, .int 0, .int 0, .ref s1, .ref s2, .ref s3])), (s3, .inr (9, [.int (-1), .int 0, .int 0, .int 0, .int 0, .ref m1, .ref m2, .ref m3]))] sz) := by
  refine jy_met (cc := cX11_seen) (maxL := 3) (ret := (some .int)) (lv := [(0, .ref h0), (1, .int i1)]) (by decide) rfl (Nat.le_of_ble_eq_true rfl) rfl ?_
  intro p e s m below meth c F hr hlk hnm hN hA
  have hiX11 : ∀ w ∈ u_ws RX11 TX11 15, w ∈ ws_c_X11_seen := fun w hw => List.mem_cons_of_mem _ (List.mem_append_left _ (List.mem_append_left _ (List.mem_append_right _ hw)))
  have hiX5 : ∀ w ∈ u_ws RX5 TX5 7, w ∈ ws_c_X11_seen := fun w hw => List.mem_cons_of_mem _ (List.mem_append_left _ (List.mem_append_right _ hw))
  have hiX10 : ∀ w ∈ u_ws RX10 TX10 8, w ∈ ws_c_X11_seen := fun w hw => List.mem_cons_of_mem _ (List.mem_append_right _ hw)
  refine jy_iload_n (pc' := 1) F 1 dX11_seen_0 rfl rfl rfl ?_
  refine jy_iconst (pc' := 2) (v := 0) F dX11_seen_1 (by decide) rfl ?_
  refine jy_iconst (pc' := 3) (v := 4) F dX11_seen_2 (by decide) rfl ?_
  refine jy_callSi (pc' := 6) (jy_runS (As := [.int i1, .int 0, .int 4]) (st := []) F hN (fun sz => c_X11_within l D k i1 0 4 sz ) (jy_cS F g_c_X11_seen_c_X11_within rfl hdX11_within (List.mem_of_getElem? (i := 2) rfl) (List.mem_of_getElem? (i := 4) rfl) (List.mem_of_getElem? (i := 3) rfl) rfl rfl ⟨by decide, by decide⟩) [] rfl (by decide) rfl rfl (Nat.le_of_ble_eq_true rfl) dX11_seen_3 ⟨by decide, by decide⟩) rfl (fun r_1 e_2 => ?_)
  rcases e_2 with ⟨z_4, h_3⟩ | ⟨z_5, h_3⟩
  · subst z_4
    refine jy_if_ne (pc' := 9) (tgt := 15) F dX11_seen_6 (by decide) rfl (fun _ => ?_) (fun h => absurd h (by decide))
    refine jy_aload_n (pc' := 16) F 0 dX11_seen_15 rfl rfl rfl ?_
    refine jy_get (pc' := 19) (C := RX11) (T := TX11) (N := 15) (ci := 10) (v := .ref s0) F hiX11 0 rfl rfl 5 (by decide) dX11_seen_16 (List.mem_of_getElem? (i := 5) rfl) rfl rfl ?_
    refine jy_get (pc' := 22) (C := RX5) (T := TX5) (N := 7) (ci := 4) (v := .ref s3) F hiX5 1 rfl rfl 6 (by decide) dX11_seen_19 (List.mem_of_getElem? (i := 6) rfl) rfl rfl ?_
    refine jy_astore_n (pc' := 23) (lv' := [(2, .ref s3), (0, .ref h0), (1, .int i1)]) F dX11_seen_22 rfl (by decide) rfl rfl ?_
    refine jy_aload_n (pc' := 24) F 0 dX11_seen_23 rfl rfl rfl ?_
    refine jy_get (pc' := 27) (C := RX10) (T := TX10) (N := 8) (ci := 9) (v := .int (-1)) F hiX10 2 rfl rfl 0 (by decide) dX11_seen_24 (List.mem_of_getElem? (i := 7) rfl) rfl rfl ?_
    refine jy_iconst (pc' := 28) (v := (-1)) F dX11_seen_27 (by decide) rfl ?_
    refine jy_icmp_ne (pc' := 31) (tgt := 38) F dX11_seen_28 (by decide) rfl (fun h => absurd h (by decide)) (fun _ => ?_)
    refine jy_aload_n (pc' := 32) F 1 dX11_seen_31 rfl rfl rfl ?_
    refine jy_bipush (pc' := 34) (v := 6) F dX11_seen_32 (by decide) rfl ?_
    refine jy_calli (pc' := 37) (cells' := 0) (slots' := 0) (wr := [(s0, .inr (4, [.int 0, .int 0, .int 0, .int 0, .ref s1, .ref s2, .ref s3])), (s3, .inr (9, [.int (-1), .int 0, .int 0, .int 0, .int 0, .ref m1, .ref m2, .ref m3]))]) hA [0] [1, 2] rfl rfl (by decide) (by decide) (jy_runV (As := [.int 6]) (b := h0) (q0 := 0) (ci := 10) (C := RX11) (T := TX11) (N := 15) (st := []) F hN (fun sz => c_X11_refuse l D k h0 0 (.long 0) (.long 1) (.ref t0) (.ref a2) (.ref s0) (.ref a4) (.int 0) (.ref a5) (.ref a6) (.ref a7) (.ref a8) (.ref a9) (.ref a10) (.int 0) 6 sz ) (jy_cV F g_c_X11_seen_c_X11_refuse rfl hdX11_refuse (List.mem_of_getElem? (i := 2) rfl) (List.mem_of_getElem? (i := 12) rfl) (List.mem_of_getElem? (i := 10) rfl) (List.mem_of_getElem? (i := 11) rfl) rfl rfl ⟨by decide, by decide⟩) rfl rfl [0] rfl (by decide) rfl rfl (Nat.le_of_ble_eq_true rfl) dX11_seen_34 ⟨by decide, by decide⟩) rfl rfl rfl (fun r_10 u_8 e_9 => ?_)
    subst e_9
    refine jy_widen (cells' := 0) (slots' := 0) (by decide) (by decide) ?_
    exact jy_iret (v := (-1)) F hr hlk () (rfl) [] rfl (by decide) dX11_seen_37
  · subst z_5
    refine jy_if_ne (pc' := 9) (tgt := 15) F dX11_seen_6 (by decide) rfl (fun h => absurd h (by decide)) (fun _ => ?_)
    refine jy_aload_n (pc' := 10) F 0 dX11_seen_9 rfl rfl rfl ?_
    refine jy_iconst (pc' := 11) (v := 1) F dX11_seen_10 (by decide) rfl ?_
    refine jy_calli (pc' := 14) (cells' := 0) (slots' := 0) (wr := [(s0, .inr (4, [.int 0, .int 0, .int 0, .int 0, .ref s1, .ref s2, .ref s3])), (s3, .inr (9, [.int (-1), .int 0, .int 0, .int 0, .int 0, .ref m1, .ref m2, .ref m3]))]) hA [0] [1, 2] rfl rfl (by decide) (by decide) (jy_runV (As := [.int 1]) (b := h0) (q0 := 0) (ci := 10) (C := RX11) (T := TX11) (N := 15) (st := []) F hN (fun sz => c_X11_refuse l D k h0 0 (.long 0) (.long 1) (.ref t0) (.ref a2) (.ref s0) (.ref a4) (.int 0) (.ref a5) (.ref a6) (.ref a7) (.ref a8) (.ref a9) (.ref a10) (.int 0) 1 sz ) (jy_cV F g_c_X11_seen_c_X11_refuse rfl hdX11_refuse (List.mem_of_getElem? (i := 2) rfl) (List.mem_of_getElem? (i := 12) rfl) (List.mem_of_getElem? (i := 10) rfl) (List.mem_of_getElem? (i := 11) rfl) rfl rfl ⟨by decide, by decide⟩) rfl rfl [0] rfl (by decide) rfl rfl (Nat.le_of_ble_eq_true rfl) dX11_seen_11 ⟨by decide, by decide⟩) rfl rfl rfl (fun r_14 u_12 e_13 => ?_)
    subst e_13
    refine jy_widen (cells' := 0) (slots' := 0) (by decide) (by decide) ?_
    exact jy_iret (v := (-1)) F hr hlk () (rfl) [] rfl (by decide) dX11_seen_14
abbrev cX11_doomed : ByteArray := prog_1_method_49_code
def yX11_doomed : MethodName := ⟨RX11, "doomed", "()I"⟩
theorem hdX11_doomed : yX11_doomed.cls ≠ "java/lang/invoke/MethodHandle" ∧ yX11_doomed.cls ≠ "java/lang/invoke/VarHandle" ∧ (parseMethodDescriptor yX11_doomed.desc).map (fun d => d.parameters.length) = some 0 := by decide +kernel
theorem dX11_doomed_0 : decode cX11_doomed 0 = .ok (.aload_n 0, 1) := by decide +kernel
theorem dX11_doomed_1 : decode cX11_doomed 1 = .ok (.getfield 26, 3) := by decide +kernel
theorem dX11_doomed_4 : decode cX11_doomed 4 = .ok (.getfield 367, 3) := by decide +kernel
theorem dX11_doomed_7 : decode cX11_doomed 7 = .ok (.getfield 372, 3) := by decide +kernel
theorem dX11_doomed_10 : decode cX11_doomed 10 = .ok (.iconst (-1), 1) := by decide +kernel
theorem dX11_doomed_11 : decode cX11_doomed 11 = .ok (.if_icmp .ne 10, 3) := by decide +kernel
theorem dX11_doomed_14 : decode cX11_doomed 14 = .ok (.aload_n 0, 1) := by decide +kernel
theorem dX11_doomed_15 : decode cX11_doomed 15 = .ok (.bipush 6, 2) := by decide +kernel
theorem dX11_doomed_17 : decode cX11_doomed 17 = .ok (.invokevirtual 110, 3) := by decide +kernel
theorem dX11_doomed_20 : decode cX11_doomed 20 = .ok (.ireturn, 1) := by decide +kernel
def ws_c_X11_doomed : List Cond := .code yX11_doomed cX11_doomed 1 (some .int) :: ([.fieldLink "NestedChecker" 26 "NestedChecker" "live" "LNestedChecker$Setting;", .fieldLink "NestedChecker" 367 "NestedChecker$Setting" "monitor" "LNestedChecker$Walk;", .fieldLink "NestedChecker" 372 "NestedChecker$Walk" "watched" "I", .code ⟨"NestedChecker", "refuse", "(I)I"⟩ cX11_refuse 2 (some .int), .fieldLink "NestedChecker" 72 "NestedChecker" "lastStatus" "I", .initialized "NestedChecker", .instanceMethod ⟨"NestedChecker", "refuse", "(I)I"⟩, .selects "NestedChecker" ⟨"NestedChecker", "refuse", "(I)I"⟩ ⟨"NestedChecker", "refuse", "(I)I"⟩, .methodLink "NestedChecker" 110 ⟨"NestedChecker", "refuse", "(I)I"⟩] ++ wsX110 ++ wsX50 ++ wsX100)
set_option maxRecDepth 20000 in
theorem g_c_X11_doomed_c_X11_refuse : GoodIn ws_c_X11_doomed ws_c_X11_refuse := goodIn_r _ [4, 5, 10, 11, 12, 13, 14, 15, 16, 17, 18, 19, 20, 21, 22, 23, 24] (by decide +kernel) (by decide +kernel)
set_option maxHeartbeats 4000000 in
set_option maxRecDepth 100000 in
theorem c_X11_doomed (l : Launch) (D : va_G) (k : jK) (h0 : Nat) (a2 : Nat) (a4 : Nat) (a5 : Nat) (a6 : Nat) (a7 : Nat) (a8 : Nat) (a9 : Nat) (a10 : Nat) (t0 : Nat) (s0 : Nat) (s1 : Nat) (s2 : Nat) (s3 : Nat) (m1 : Nat) (m2 : Nat) (m3 : Nat) (sz : Nat)  : Met l yX11_doomed ws_c_X11_doomed ({ frames := 1, cells := 0, slots := 0, locals := 21 }) (jy_P [.ref h0] D vwCl (jT k) jW [(h0, .inr (10, [.int 0, .long 0, .long 1, .ref t0, .ref a2, .ref s0, .ref a4, .int 0, .ref a5, .ref a6, .ref a7, .ref a8, .ref a9, .ref a10, .int 0])), (s0, .inr (4, [.int 0, .int 0, .int 0, .int 0, .ref s1, .ref s2, .ref s3])), (s3, .inr (9, [.int (-1), .int 0, .int 0, .int 0, .int 0, .ref m1, .ref m2, .ref m3]))] sz) (va_Qi (fun (r : Int32) (u : Unit) => r = -1) (jy_B D vwCl (va_A [(h0, .inr (10, [.int 0, .long 0, .long 1, .ref t0, .ref a2, .ref s0, .ref a4, .int 0, .ref a5, .ref a6, .ref a7, .ref a8, .ref a9, .ref a10, .int 0])), (s0, .inr (4, [.int 0, .int 0, .int 0, .int 0, .ref s1, .ref s2, .ref s3])), (s3, .inr (9, [.int (-1), .int 0, .int 0, .int 0, .int 0, .ref m1, .ref m2, .ref m3]))] sz) (fun (u : Unit) => [])) (va_A [(h0, .inr (10, [.int 0, .long 0, .long 1, .ref t0, .ref a2, .ref s0, .ref a4, .int 0, .ref a5, .ref a6, .ref a7, .ref a8, .ref a9, .ref a10, .int 0])), (s0, .inr (4, [.int 0, .int 0, .int 0, .int 0, .ref s1, .ref s2, .ref s3])), (s3, .inr (9, [.int (-1), .int 0, .int 0, .int 0, .int 0, .ref m1, .ref m2, .ref m3]))] sz)) 0 0 (va_A [(h0, .inr (10, [.int 0, .long 0, .long 1, .ref t0, .ref a2, .ref s0, .ref a4, .int 0, .ref a5, .ref a6, .ref a7, .ref a8, .ref a9, .ref a10, .int 0])), (s0, .inr (4, [.int 0, .int 0, .int 0, .int 0, .ref s1, .ref s2, .ref s3])), (s3, .inr (9, [.int (-1), .int 0, .int 0, .int 0, .int 0, .ref m1, .ref m2, .ref m3]))] sz) := by
  refine jy_met (cc := cX11_doomed) (maxL := 1) (ret := (some .int)) (lv := [(0, .ref h0)]) (by decide) rfl (Nat.le_of_ble_eq_true rfl) rfl ?_
  intro p e s m below meth c F hr hlk hnm hN hA
  have hiX11 : ∀ w ∈ u_ws RX11 TX11 15, w ∈ ws_c_X11_doomed := fun w hw => List.mem_cons_of_mem _ (List.mem_append_left _ (List.mem_append_left _ (List.mem_append_right _ hw)))
  have hiX5 : ∀ w ∈ u_ws RX5 TX5 7, w ∈ ws_c_X11_doomed := fun w hw => List.mem_cons_of_mem _ (List.mem_append_left _ (List.mem_append_right _ hw))
  have hiX10 : ∀ w ∈ u_ws RX10 TX10 8, w ∈ ws_c_X11_doomed := fun w hw => List.mem_cons_of_mem _ (List.mem_append_right _ hw)
  refine jy_aload_n (pc' := 1) F 0 dX11_doomed_0 rfl rfl rfl ?_
  refine jy_get (pc' := 4) (C := RX11) (T := TX11) (N := 15) (ci := 10) (v := .ref s0) F hiX11 0 rfl rfl 5 (by decide) dX11_doomed_1 (List.mem_of_getElem? (i := 1) rfl) rfl rfl ?_
  refine jy_get (pc' := 7) (C := RX5) (T := TX5) (N := 7) (ci := 4) (v := .ref s3) F hiX5 1 rfl rfl 6 (by decide) dX11_doomed_4 (List.mem_of_getElem? (i := 2) rfl) rfl rfl ?_
  refine jy_get (pc' := 10) (C := RX10) (T := TX10) (N := 8) (ci := 9) (v := .int (-1)) F hiX10 2 rfl rfl 0 (by decide) dX11_doomed_7 (List.mem_of_getElem? (i := 3) rfl) rfl rfl ?_
  refine jy_iconst (pc' := 11) (v := (-1)) F dX11_doomed_10 (by decide) rfl ?_
  refine jy_icmp_ne (pc' := 14) (tgt := 21) F dX11_doomed_11 (by decide) rfl (fun h => absurd h (by decide)) (fun _ => ?_)
  refine jy_aload_n (pc' := 15) F 0 dX11_doomed_14 rfl rfl rfl ?_
  refine jy_bipush (pc' := 17) (v := 6) F dX11_doomed_15 (by decide) rfl ?_
  refine jy_calli (pc' := 20) (cells' := 0) (slots' := 0) (wr := [(s0, .inr (4, [.int 0, .int 0, .int 0, .int 0, .ref s1, .ref s2, .ref s3])), (s3, .inr (9, [.int (-1), .int 0, .int 0, .int 0, .int 0, .ref m1, .ref m2, .ref m3]))]) hA [0] [1, 2] rfl rfl (by decide) (by decide) (jy_runV (As := [.int 6]) (b := h0) (q0 := 0) (ci := 10) (C := RX11) (T := TX11) (N := 15) (st := []) F hN (fun sz => c_X11_refuse l D k h0 0 (.long 0) (.long 1) (.ref t0) (.ref a2) (.ref s0) (.ref a4) (.int 0) (.ref a5) (.ref a6) (.ref a7) (.ref a8) (.ref a9) (.ref a10) (.int 0) 6 sz ) (jy_cV F g_c_X11_doomed_c_X11_refuse rfl hdX11_refuse (List.mem_of_getElem? (i := 6) rfl) (List.mem_of_getElem? (i := 9) rfl) (List.mem_of_getElem? (i := 7) rfl) (List.mem_of_getElem? (i := 8) rfl) rfl rfl ⟨by decide, by decide⟩) rfl rfl [0] rfl (by decide) rfl rfl (Nat.le_of_ble_eq_true rfl) dX11_doomed_17 ⟨by decide, by decide⟩) rfl rfl rfl (fun r_4 u_2 e_3 => ?_)
  subst e_3
  refine jy_widen (cells' := 0) (slots' := 0) (by decide) (by decide) ?_
  exact jy_iret (v := (-1)) F hr hlk () (rfl) [] rfl (by decide) dX11_doomed_20
abbrev cX11_undo : ByteArray := prog_1_method_51_code
def yX11_undo : MethodName := ⟨RX11, "undo", "()I"⟩
theorem hdX11_undo : yX11_undo.cls ≠ "java/lang/invoke/MethodHandle" ∧ yX11_undo.cls ≠ "java/lang/invoke/VarHandle" ∧ (parseMethodDescriptor yX11_undo.desc).map (fun d => d.parameters.length) = some 0 := by decide +kernel
theorem dX11_undo_0 : decode cX11_undo 0 = .ok (.aload_n 0, 1) := by decide +kernel
theorem dX11_undo_1 : decode cX11_undo 1 = .ok (.getfield 385, 3) := by decide +kernel
theorem dX11_undo_4 : decode cX11_undo 4 = .ok (.ifCond .gt 10, 3) := by decide +kernel
theorem dX11_undo_7 : decode cX11_undo 7 = .ok (.aload_n 0, 1) := by decide +kernel
theorem dX11_undo_8 : decode cX11_undo 8 = .ok (.bipush 6, 2) := by decide +kernel
theorem dX11_undo_10 : decode cX11_undo 10 = .ok (.invokevirtual 110, 3) := by decide +kernel
theorem dX11_undo_13 : decode cX11_undo 13 = .ok (.ireturn, 1) := by decide +kernel
def ws_c_X11_undo : List Cond := .code yX11_undo cX11_undo 2 (some .int) :: ([.fieldLink "NestedChecker" 385 "NestedChecker" "marks" "I", .code ⟨"NestedChecker", "refuse", "(I)I"⟩ cX11_refuse 2 (some .int), .fieldLink "NestedChecker" 72 "NestedChecker" "lastStatus" "I", .initialized "NestedChecker", .instanceMethod ⟨"NestedChecker", "refuse", "(I)I"⟩, .selects "NestedChecker" ⟨"NestedChecker", "refuse", "(I)I"⟩ ⟨"NestedChecker", "refuse", "(I)I"⟩, .methodLink "NestedChecker" 110 ⟨"NestedChecker", "refuse", "(I)I"⟩] ++ wsX110)
set_option maxRecDepth 20000 in
theorem g_c_X11_undo_c_X11_refuse : GoodIn ws_c_X11_undo ws_c_X11_refuse := goodIn_r _ [2, 3, 8, 9, 10, 11, 12, 13, 14, 15, 16, 17, 18, 19, 20, 21, 22] (by decide +kernel) (by decide +kernel)
set_option maxHeartbeats 4000000 in
set_option maxRecDepth 100000 in
theorem c_X11_undo (l : Launch) (D : va_G) (k : jK) (h0 : Nat) (a2 : Nat) (a4 : Nat) (a5 : Nat) (a6 : Nat) (a7 : Nat) (a8 : Nat) (a9 : Nat) (a10 : Nat) (t0 : Nat) (s0 : Nat) (sz : Nat)  : Met l yX11_undo ws_c_X11_undo ({ frames := 1, cells := 0, slots := 0, locals := 21 }) (jy_P [.ref h0] D vwCl (jT k) jW [(h0, .inr (10, [.int 0, .long 0, .long 1, .ref t0, .ref a2, .ref s0, .ref a4, .int 0, .ref a5, .ref a6, .ref a7, .ref a8, .ref a9, .ref a10, .int 0]))] sz) (va_Qi (fun (r : Int32) (u : Unit) => r = -1) (jy_B D vwCl (va_A [(h0, .inr (10, [.int 0, .long 0, .long 1, .ref t0, .ref a2, .ref s0, .ref a4, .int 0, .ref a5, .ref a6, .ref a7, .ref a8, .ref a9, .ref a10, .int 0]))] sz) (fun (u : Unit) => [])) (va_A [(h0, .inr (10, [.int 0, .long 0, .long 1, .ref t0, .ref a2, .ref s0, .ref a4, .int 0, .ref a5, .ref a6, .ref a7, .ref a8, .ref a9, .ref a10, .int 0]))] sz)) 0 0 (va_A [(h0, .inr (10, [.int 0, .long 0, .long 1, .ref t0, .ref a2, .ref s0, .ref a4, .int 0, .ref a5, .ref a6, .ref a7, .ref a8, .ref a9, .ref a10, .int 0]))] sz) := by
  refine jy_met (cc := cX11_undo) (maxL := 2) (ret := (some .int)) (lv := [(0, .ref h0)]) (by decide) rfl (Nat.le_of_ble_eq_true rfl) rfl ?_
  intro p e s m below meth c F hr hlk hnm hN hA
  have hiX11 : ∀ w ∈ u_ws RX11 TX11 15, w ∈ ws_c_X11_undo := fun w hw => List.mem_cons_of_mem _ (List.mem_append_right _ hw)
  refine jy_aload_n (pc' := 1) F 0 dX11_undo_0 rfl rfl rfl ?_
  refine jy_get (pc' := 4) (C := RX11) (T := TX11) (N := 15) (ci := 10) (v := .int 0) F hiX11 0 rfl rfl 7 (by decide) dX11_undo_1 (List.mem_of_getElem? (i := 1) rfl) rfl rfl ?_
  refine jy_if_gt (pc' := 7) (tgt := 14) F dX11_undo_4 (by decide) rfl (fun h => absurd h (by decide)) (fun _ => ?_)
  refine jy_aload_n (pc' := 8) F 0 dX11_undo_7 rfl rfl rfl ?_
  refine jy_bipush (pc' := 10) (v := 6) F dX11_undo_8 (by decide) rfl ?_
  refine jy_calli (pc' := 13) (cells' := 0) (slots' := 0) (wr := []) hA [0] [] rfl rfl (by decide) (by decide) (jy_runV (As := [.int 6]) (b := h0) (q0 := 0) (ci := 10) (C := RX11) (T := TX11) (N := 15) (st := []) F hN (fun sz => c_X11_refuse l D k h0 0 (.long 0) (.long 1) (.ref t0) (.ref a2) (.ref s0) (.ref a4) (.int 0) (.ref a5) (.ref a6) (.ref a7) (.ref a8) (.ref a9) (.ref a10) (.int 0) 6 sz ) (jy_cV F g_c_X11_undo_c_X11_refuse rfl hdX11_refuse (List.mem_of_getElem? (i := 4) rfl) (List.mem_of_getElem? (i := 7) rfl) (List.mem_of_getElem? (i := 5) rfl) (List.mem_of_getElem? (i := 6) rfl) rfl rfl ⟨by decide, by decide⟩) rfl rfl [0] rfl (by decide) rfl rfl (Nat.le_of_ble_eq_true rfl) dX11_undo_10 ⟨by decide, by decide⟩) rfl rfl rfl (fun r_4 u_2 e_3 => ?_)
  subst e_3
  refine jy_widen (cells' := 0) (slots' := 0) (by decide) (by decide) ?_
  exact jy_iret (v := (-1)) F hr hlk () (rfl) [] rfl (by decide) dX11_undo_13
