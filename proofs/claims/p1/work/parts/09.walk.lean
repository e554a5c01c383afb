abbrev cX11_drop : ByteArray := prog_1_method_16_code
def yX11_drop : MethodName := ⟨RX11, "drop", "(II)I"⟩
theorem hdX11_drop : yX11_drop.cls ≠ "java/lang/invoke/MethodHandle" ∧ yX11_drop.cls ≠ "java/lang/invoke/VarHandle" ∧ (parseMethodDescriptor yX11_drop.desc).map (fun d => d.parameters.length) = some 2 := by decide +kernel
theorem dX11_drop_0 : decode cX11_drop 0 = .ok (.aload_n 0, 1) := by decide +kernel
theorem dX11_drop_1 : decode cX11_drop 1 = .ok (.getfield 26, 3) := by decide +kernel
theorem dX11_drop_4 : decode cX11_drop 4 = .ok (.iload_n 1, 1) := by decide +kernel
theorem dX11_drop_5 : decode cX11_drop 5 = .ok (.invokevirtual 163, 3) := by decide +kernel
theorem dX11_drop_8 : decode cX11_drop 8 = .ok (.ifCond .eq 18, 3) := by decide +kernel
theorem dX11_drop_26 : decode cX11_drop 26 = .ok (.aload_n 0, 1) := by decide +kernel
theorem dX11_drop_27 : decode cX11_drop 27 = .ok (.iconst 1, 1) := by decide +kernel
theorem dX11_drop_28 : decode cX11_drop 28 = .ok (.invokevirtual 110, 3) := by decide +kernel
theorem dX11_drop_31 : decode cX11_drop 31 = .ok (.ireturn, 1) := by decide +kernel
def ws_c_X11_drop : List Cond := .code yX11_drop cX11_drop 4 (some .int) :: ([.fieldLink "NestedChecker" 26 "NestedChecker" "live" "LNestedChecker$Setting;", .code ⟨"NestedChecker$Setting", "has", "(I)Z"⟩ cX5_has 2 (some .boolean), .fieldLink "NestedChecker$Setting" 38 "NestedChecker$Setting" "automata" "I", .initialized "NestedChecker$Setting", .instanceMethod ⟨"NestedChecker$Setting", "has", "(I)Z"⟩, .selects "NestedChecker$Setting" ⟨"NestedChecker$Setting", "has", "(I)Z"⟩ ⟨"NestedChecker$Setting", "has", "(I)Z"⟩, .methodLink "NestedChecker" 163 ⟨"NestedChecker$Setting", "has", "(I)Z"⟩, .code ⟨"NestedChecker", "refuse", "(I)I"⟩ cX11_refuse 2 (some .int), .fieldLink "NestedChecker" 72 "NestedChecker" "lastStatus" "I", .initialized "NestedChecker", .instanceMethod ⟨"NestedChecker", "refuse", "(I)I"⟩, .selects "NestedChecker" ⟨"NestedChecker", "refuse", "(I)I"⟩ ⟨"NestedChecker", "refuse", "(I)I"⟩, .methodLink "NestedChecker" 110 ⟨"NestedChecker", "refuse", "(I)I"⟩] ++ wsX110 ++ wsX50)
set_option maxRecDepth 20000 in
theorem g_c_X11_drop_c_X5_has : GoodIn ws_c_X11_drop ws_c_X5_has := goodIn_r _ [2, 3, 29, 30, 31, 32, 33, 34, 35] (by decide +kernel) (by decide +kernel)
set_option maxRecDepth 20000 in
theorem g_c_X11_drop_c_X11_refuse : GoodIn ws_c_X11_drop ws_c_X11_refuse := goodIn_r _ [8, 9, 14, 15, 16, 17, 18, 19, 20, 21, 22, 23, 24, 25, 26, 27, 28] (by decide +kernel) (by decide +kernel)
set_option maxHeartbeats 4000000 in
set_option maxRecDepth 100000 in
theorem c_X11_drop (l : Launch) (D : va_G) (k : jK) (h0 : Nat) (a2 : Nat) (a4 : Nat) (a5 : Nat) (a6 : Nat) (a7 : Nat) (a8 : Nat) (a9 : Nat) (a10 : Nat) (t0 : Nat) (s0 : Nat) (s1 : Nat) (s2 : Nat) (s3 : Nat) (i1 : Int32) (i2 : Int32) (sz : Nat)  : Met l yX11_drop ws_c_X11_drop ({ frames := 1, cells := 0, slots := 0, locals := 21 }) (jy_P [.ref h0, .int i1, .int i2] D vwCl (jT k) jW [(h0, .inr (10, [.int 0, .long 0, .long 1, .ref t0, .ref a2, .ref s0, .ref a4, .int 0, .ref a5, .ref a6, .ref a7, .ref a8, .ref a9, .ref a10, .int 0])), (s0, .inr (4, [.int 0, .int 0, .int 0, .int 0, .ref s1, .ref s2, .ref s3]))] sz) (va_Qi (fun (r : Int32) (u : Unit) => r = -1) (jy_B D vwCl (va_A [(h0, .inr (10, [.int 0, .long 0, .long 1, .ref t0, .ref a2, .ref s0, .ref a4, .int 0, .ref a5, .ref a6, .ref a7, .ref a8, .ref a9, .ref a10, .int 0])), (s0, .inr (4, [.int 0, .int 0, .int 0, .int 0, .ref s1, .ref s2, .ref s3]))] sz) (fun (u : Unit) => [])) (va_A [(h0, .inr (10, [.int 0, .long 0, .long 1, .ref t0, .ref a2, .ref s0, .ref a4, .int 0, .ref a5, .ref a6, .ref a7, .ref a8, .ref a9, .ref a10, .int 0])), (s0, .inr (4, [.int 0, .int 0, .int 0, .int 0, .ref s1, .ref s2, .ref s3]))] sz)) 0 0 (va_A [(h0, .inr (10, [.int 0, .long 0, .long 1, .ref t0, .ref a2, .ref s0, .ref a4, .int 0, .ref a5, .ref a6, .ref a7, .ref a8, .ref a9, .ref a10, .int 0])), (s0, .inr (4, [.int 0, .int 0, .int 0, .int 0, .ref s1, .ref s2, .ref s3]))] sz) := by
  refine jy_met (cc := cX11_drop) (maxL := 4) (ret := (some .int)) (lv := [(0, .ref h0), (1, .int i1), (2, .int i2)]) (by decide) rfl (Nat.le_of_ble_eq_true rfl) rfl ?_
  intro p e s m below meth c F hr hlk hnm hN hA
  have hiX11 : ∀ w ∈ u_ws RX11 TX11 15, w ∈ ws_c_X11_drop := fun w hw => List.mem_cons_of_mem _ (List.mem_append_left _ (List.mem_append_right _ hw))
  have hiX5 : ∀ w ∈ u_ws RX5 TX5 7, w ∈ ws_c_X11_drop := fun w hw => List.mem_cons_of_mem _ (List.mem_append_right _ hw)
  refine jy_aload_n (pc' := 1) F 0 dX11_drop_0 rfl rfl rfl ?_
  refine jy_get (pc' := 4) (C := RX11) (T := TX11) (N := 15) (ci := 10) (v := .ref s0) F hiX11 0 rfl rfl 5 (by decide) dX11_drop_1 (List.mem_of_getElem? (i := 1) rfl) rfl rfl ?_
  refine jy_iload_n (pc' := 5) F 1 dX11_drop_4 rfl rfl rfl ?_
  refine jy_callSi (pc' := 8) (jy_runV (As := [.int i1]) (b := s0) (q0 := 1) (ci := 4) (C := RX5) (T := TX5) (N := 7) (st := []) F hN (fun sz => c_X5_has l D k s0 s1 s2 s3 i1 sz ) (jy_cV F g_c_X11_drop_c_X5_has rfl hdX5_has (List.mem_of_getElem? (i := 4) rfl) (List.mem_of_getElem? (i := 7) rfl) (List.mem_of_getElem? (i := 5) rfl) (List.mem_of_getElem? (i := 6) rfl) rfl rfl ⟨by decide, by decide⟩) rfl rfl [1] rfl (by decide) rfl rfl (Nat.le_of_ble_eq_true rfl) dX11_drop_5 ⟨by decide, by decide⟩) rfl (fun r_1 e_2 => ?_)
  subst e_2
  refine jy_if_eq (pc' := 11) (tgt := 26) F dX11_drop_8 (by decide) rfl (fun _ => ?_) (fun h => absurd h (by decide))
  refine jy_aload_n (pc' := 27) F 0 dX11_drop_26 rfl rfl rfl ?_
  refine jy_iconst (pc' := 28) (v := 1) F dX11_drop_27 (by decide) rfl ?_
  refine jy_calli (pc' := 31) (cells' := 0) (slots' := 0) (wr := [(s0, .inr (4, [.int 0, .int 0, .int 0, .int 0, .ref s1, .ref s2, .ref s3]))]) hA [0] [1] rfl rfl (by decide) (by decide) (jy_runV (As := [.int 1]) (b := h0) (q0 := 0) (ci := 10) (C := RX11) (T := TX11) (N := 15) (st := []) F hN (fun sz => c_X11_refuse l D k h0 0 (.long 0) (.long 1) (.ref t0) (.ref a2) (.ref s0) (.ref a4) (.int 0) (.ref a5) (.ref a6) (.ref a7) (.ref a8) (.ref a9) (.ref a10) (.int 0) 1 sz ) (jy_cV F g_c_X11_drop_c_X11_refuse rfl hdX11_refuse (List.mem_of_getElem? (i := 10) rfl) (List.mem_of_getElem? (i := 13) rfl) (List.mem_of_getElem? (i := 11) rfl) (List.mem_of_getElem? (i := 12) rfl) rfl rfl ⟨by decide, by decide⟩) rfl rfl [0] rfl (by decide) rfl rfl (Nat.le_of_ble_eq_true rfl) dX11_drop_28 ⟨by decide, by decide⟩) rfl rfl rfl (fun r_6 u_4 e_5 => ?_)
  subst e_5
  refine jy_widen (cells' := 0) (slots' := 0) (by decide) (by decide) ?_
  exact jy_iret (v := (-1)) F hr hlk () (rfl) [] rfl (by decide) dX11_drop_31
abbrev cX11_hasState : ByteArray := prog_1_method_58_code
def yX11_hasState : MethodName := ⟨RX11, "hasState", "(II)Z"⟩
theorem hdX11_hasState : yX11_hasState.cls ≠ "java/lang/invoke/MethodHandle" ∧ yX11_hasState.cls ≠ "java/lang/invoke/VarHandle" ∧ (parseMethodDescriptor yX11_hasState.desc).map (fun d => d.parameters.length) = some 2 := by decide +kernel
theorem dX11_hasState_0 : decode cX11_hasState 0 = .ok (.aload_n 0, 1) := by decide +kernel
theorem dX11_hasState_1 : decode cX11_hasState 1 = .ok (.getfield 26, 3) := by decide +kernel
theorem dX11_hasState_4 : decode cX11_hasState 4 = .ok (.iload_n 1, 1) := by decide +kernel
theorem dX11_hasState_5 : decode cX11_hasState 5 = .ok (.invokevirtual 163, 3) := by decide +kernel
theorem dX11_hasState_8 : decode cX11_hasState 8 = .ok (.ifCond .eq 22, 3) := by decide +kernel
theorem dX11_hasState_30 : decode cX11_hasState 30 = .ok (.iconst 0, 1) := by decide +kernel
theorem dX11_hasState_31 : decode cX11_hasState 31 = .ok (.ireturn, 1) := by decide +kernel
def ws_c_X11_hasState : List Cond := .code yX11_hasState cX11_hasState 3 (some .boolean) :: ([.fieldLink "NestedChecker" 26 "NestedChecker" "live" "LNestedChecker$Setting;", .code ⟨"NestedChecker$Setting", "has", "(I)Z"⟩ cX5_has 2 (some .boolean), .fieldLink "NestedChecker$Setting" 38 "NestedChecker$Setting" "automata" "I", .initialized "NestedChecker$Setting", .instanceMethod ⟨"NestedChecker$Setting", "has", "(I)Z"⟩, .selects "NestedChecker$Setting" ⟨"NestedChecker$Setting", "has", "(I)Z"⟩ ⟨"NestedChecker$Setting", "has", "(I)Z"⟩, .methodLink "NestedChecker" 163 ⟨"NestedChecker$Setting", "has", "(I)Z"⟩] ++ wsX110 ++ wsX50)
set_option maxRecDepth 20000 in
theorem g_c_X11_hasState_c_X5_has : GoodIn ws_c_X11_hasState ws_c_X5_has := goodIn_r _ [2, 3, 23, 24, 25, 26, 27, 28, 29] (by decide +kernel) (by decide +kernel)
set_option maxHeartbeats 4000000 in
set_option maxRecDepth 100000 in
theorem c_X11_hasState (l : Launch) (D : va_G) (k : jK) (h0 : Nat) (a2 : Nat) (a4 : Nat) (a5 : Nat) (a6 : Nat) (a7 : Nat) (a8 : Nat) (a9 : Nat) (a10 : Nat) (t0 : Nat) (s0 : Nat) (s1 : Nat) (s2 : Nat) (s3 : Nat) (y1 : Int32) (y2 : Int32) (sz : Nat)  : Met l yX11_hasState ws_c_X11_hasState ({ frames := 1, cells := 0, slots := 0, locals := 21 }) (jy_P [.ref h0, .int y1, .int y2] D vwCl (jT k) jW [(h0, .inr (10, [.int 0, .long 0, .long 1, .ref t0, .ref a2, .ref s0, .ref a4, .int 0, .ref a5, .ref a6, .ref a7, .ref a8, .ref a9, .ref a10, .int 0])), (s0, .inr (4, [.int 0, .int 0, .int 0, .int 0, .ref s1, .ref s2, .ref s3]))] sz) (vp_Si (fun (r : Int32) => r = 0)) 0 0 (fun _ => False) := by
  refine jy_metS (cc := cX11_hasState) (maxL := 3) (ret := (some .boolean)) (lv := [(0, .ref h0), (1, .int y1), (2, .int y2)]) (by decide) rfl (Nat.le_of_ble_eq_true rfl) rfl ?_
  intro p e s m below meth c F hr hlk hN
  have hiX11 : ∀ w ∈ u_ws RX11 TX11 15, w ∈ ws_c_X11_hasState := fun w hw => List.mem_cons_of_mem _ (List.mem_append_left _ (List.mem_append_right _ hw))
  have hiX5 : ∀ w ∈ u_ws RX5 TX5 7, w ∈ ws_c_X11_hasState := fun w hw => List.mem_cons_of_mem _ (List.mem_append_right _ hw)
  refine jy_aload_n (pc' := 1) F 0 dX11_hasState_0 rfl rfl rfl ?_
  refine jy_get (pc' := 4) (C := RX11) (T := TX11) (N := 15) (ci := 10) (v := .ref s0) F hiX11 0 rfl rfl 5 (by decide) dX11_hasState_1 (List.mem_of_getElem? (i := 1) rfl) rfl rfl ?_
  refine jy_iload_n (pc' := 5) F 1 dX11_hasState_4 rfl rfl rfl ?_
  refine jy_callSi (pc' := 8) (jy_runV (As := [.int y1]) (b := s0) (q0 := 1) (ci := 4) (C := RX5) (T := TX5) (N := 7) (st := []) F hN (fun sz => c_X5_has l D k s0 s1 s2 s3 y1 sz ) (jy_cV F g_c_X11_hasState_c_X5_has rfl hdX5_has (List.mem_of_getElem? (i := 4) rfl) (List.mem_of_getElem? (i := 7) rfl) (List.mem_of_getElem? (i := 5) rfl) (List.mem_of_getElem? (i := 6) rfl) rfl rfl ⟨by decide, by decide⟩) rfl rfl [1] rfl (by decide) rfl rfl (Nat.le_of_ble_eq_true rfl) dX11_hasState_5 ⟨by decide, by decide⟩) rfl (fun r_1 e_2 => ?_)
  subst e_2
  refine jy_if_eq (pc' := 11) (tgt := 30) F dX11_hasState_8 (by decide) rfl (fun _ => ?_) (fun h => absurd h (by decide))
  refine jy_iconst (pc' := 31) (v := 0) F dX11_hasState_30 (by decide) rfl ?_
  exact jy_zretS (v := 0) F hr hlk (by first | rfl | decide) (rfl) dX11_hasState_31
abbrev cX11_areTwo : ByteArray := prog_1_method_57_code
def yX11_areTwo : MethodName := ⟨RX11, "areTwo", "(II)Z"⟩
theorem hdX11_areTwo : yX11_areTwo.cls ≠ "java/lang/invoke/MethodHandle" ∧ yX11_areTwo.cls ≠ "java/lang/invoke/VarHandle" ∧ (parseMethodDescriptor yX11_areTwo.desc).map (fun d => d.parameters.length) = some 2 := by decide +kernel
theorem dX11_areTwo_0 : decode cX11_areTwo 0 = .ok (.aload_n 0, 1) := by decide +kernel
theorem dX11_areTwo_1 : decode cX11_areTwo 1 = .ok (.getfield 26, 3) := by decide +kernel
theorem dX11_areTwo_4 : decode cX11_areTwo 4 = .ok (.iload_n 1, 1) := by decide +kernel
theorem dX11_areTwo_5 : decode cX11_areTwo 5 = .ok (.invokevirtual 163, 3) := by decide +kernel
theorem dX11_areTwo_8 : decode cX11_areTwo 8 = .ok (.ifCond .eq 23, 3) := by decide +kernel
theorem dX11_areTwo_31 : decode cX11_areTwo 31 = .ok (.iconst 0, 1) := by decide +kernel
theorem dX11_areTwo_32 : decode cX11_areTwo 32 = .ok (.ireturn, 1) := by decide +kernel
def ws_c_X11_areTwo : List Cond := .code yX11_areTwo cX11_areTwo 3 (some .boolean) :: ([.fieldLink "NestedChecker" 26 "NestedChecker" "live" "LNestedChecker$Setting;", .code ⟨"NestedChecker$Setting", "has", "(I)Z"⟩ cX5_has 2 (some .boolean), .fieldLink "NestedChecker$Setting" 38 "NestedChecker$Setting" "automata" "I", .initialized "NestedChecker$Setting", .instanceMethod ⟨"NestedChecker$Setting", "has", "(I)Z"⟩, .selects "NestedChecker$Setting" ⟨"NestedChecker$Setting", "has", "(I)Z"⟩ ⟨"NestedChecker$Setting", "has", "(I)Z"⟩, .methodLink "NestedChecker" 163 ⟨"NestedChecker$Setting", "has", "(I)Z"⟩] ++ wsX110 ++ wsX50)
set_option maxRecDepth 20000 in
theorem g_c_X11_areTwo_c_X5_has : GoodIn ws_c_X11_areTwo ws_c_X5_has := goodIn_r _ [2, 3, 23, 24, 25, 26, 27, 28, 29] (by decide +kernel) (by decide +kernel)
set_option maxHeartbeats 4000000 in
set_option maxRecDepth 100000 in
theorem c_X11_areTwo (l : Launch) (D : va_G) (k : jK) (h0 : Nat) (a2 : Nat) (a4 : Nat) (a5 : Nat) (a6 : Nat) (a7 : Nat) (a8 : Nat) (a9 : Nat) (a10 : Nat) (t0 : Nat) (s0 : Nat) (s1 : Nat) (s2 : Nat) (s3 : Nat) (y1 : Int32) (y2 : Int32) (sz : Nat)  : Met l yX11_areTwo ws_c_X11_areTwo ({ frames := 1, cells := 0, slots := 0, locals := 21 }) (jy_P [.ref h0, .int y1, .int y2] D vwCl (jT k) jW [(h0, .inr (10, [.int 0, .long 0, .long 1, .ref t0, .ref a2, .ref s0, .ref a4, .int 0, .ref a5, .ref a6, .ref a7, .ref a8, .ref a9, .ref a10, .int 0])), (s0, .inr (4, [.int 0, .int 0, .int 0, .int 0, .ref s1, .ref s2, .ref s3]))] sz) (vp_Si (fun (r : Int32) => r = 0)) 0 0 (fun _ => False) := by
  refine jy_metS (cc := cX11_areTwo) (maxL := 3) (ret := (some .boolean)) (lv := [(0, .ref h0), (1, .int y1), (2, .int y2)]) (by decide) rfl (Nat.le_of_ble_eq_true rfl) rfl ?_
  intro p e s m below meth c F hr hlk hN
  have hiX11 : ∀ w ∈ u_ws RX11 TX11 15, w ∈ ws_c_X11_areTwo := fun w hw => List.mem_cons_of_mem _ (List.mem_append_left _ (List.mem_append_right _ hw))
  have hiX5 : ∀ w ∈ u_ws RX5 TX5 7, w ∈ ws_c_X11_areTwo := fun w hw => List.mem_cons_of_mem _ (List.mem_append_right _ hw)
  refine jy_aload_n (pc' := 1) F 0 dX11_areTwo_0 rfl rfl rfl ?_
  refine jy_get (pc' := 4) (C := RX11) (T := TX11) (N := 15) (ci := 10) (v := .ref s0) F hiX11 0 rfl rfl 5 (by decide) dX11_areTwo_1 (List.mem_of_getElem? (i := 1) rfl) rfl rfl ?_
  refine jy_iload_n (pc' := 5) F 1 dX11_areTwo_4 rfl rfl rfl ?_
  refine jy_callSi (pc' := 8) (jy_runV (As := [.int y1]) (b := s0) (q0 := 1) (ci := 4) (C := RX5) (T := TX5) (N := 7) (st := []) F hN (fun sz => c_X5_has l D k s0 s1 s2 s3 y1 sz ) (jy_cV F g_c_X11_areTwo_c_X5_has rfl hdX5_has (List.mem_of_getElem? (i := 4) rfl) (List.mem_of_getElem? (i := 7) rfl) (List.mem_of_getElem? (i := 5) rfl) (List.mem_of_getElem? (i := 6) rfl) rfl rfl ⟨by decide, by decide⟩) rfl rfl [1] rfl (by decide) rfl rfl (Nat.le_of_ble_eq_true rfl) dX11_areTwo_5 ⟨by decide, by decide⟩) rfl (fun r_1 e_2 => ?_)
  subst e_2
  refine jy_if_eq (pc' := 11) (tgt := 31) F dX11_areTwo_8 (by decide) rfl (fun _ => ?_) (fun h => absurd h (by decide))
  refine jy_iconst (pc' := 32) (v := 0) F dX11_areTwo_31 (by decide) rfl ?_
  exact jy_zretS (v := 0) F hr hlk (by first | rfl | decide) (rfl) dX11_areTwo_32
abbrev cX11_wordRefusal : ByteArray := prog_1_method_60_code
def yX11_wordRefusal : MethodName := ⟨RX11, "wordRefusal", "(ZII)I"⟩
theorem hdX11_wordRefusal : yX11_wordRefusal.cls ≠ "java/lang/invoke/MethodHandle" ∧ yX11_wordRefusal.cls ≠ "java/lang/invoke/VarHandle" ∧ (parseMethodDescriptor yX11_wordRefusal.desc).map (fun d => d.parameters.length) = some 3 := by decide +kernel
theorem dX11_wordRefusal_0 : decode cX11_wordRefusal 0 = .ok (.iload_n 1, 1) := by decide +kernel
theorem dX11_wordRefusal_1 : decode cX11_wordRefusal 1 = .ok (.ifCond .eq 24, 3) := by decide +kernel
theorem dX11_wordRefusal_4 : decode cX11_wordRefusal 4 = .ok (.aload_n 0, 1) := by decide +kernel
theorem dX11_wordRefusal_5 : decode cX11_wordRefusal 5 = .ok (.getfield 10, 3) := by decide +kernel
theorem dX11_wordRefusal_8 : decode cX11_wordRefusal 8 = .ok (.iload_n 2, 1) := by decide +kernel
theorem dX11_wordRefusal_9 : decode cX11_wordRefusal 9 = .ok (.invokevirtual 83, 3) := by decide +kernel
theorem dX11_wordRefusal_12 : decode cX11_wordRefusal 12 = .ok (.ifCond .eq 13, 3) := by decide +kernel
theorem dX11_wordRefusal_15 : decode cX11_wordRefusal 15 = .ok (.iload_n 3, 1) := by decide +kernel
theorem dX11_wordRefusal_16 : decode cX11_wordRefusal 16 = .ok (.iconst 0, 1) := by decide +kernel
theorem dX11_wordRefusal_17 : decode cX11_wordRefusal 17 = .ok (.bipush 20, 2) := by decide +kernel
theorem dX11_wordRefusal_19 : decode cX11_wordRefusal 19 = .ok (.invokestatic 87, 3) := by decide +kernel
theorem dX11_wordRefusal_22 : decode cX11_wordRefusal 22 = .ok (.ifCond .ne 5, 3) := by decide +kernel
theorem dX11_wordRefusal_25 : decode cX11_wordRefusal 25 = .ok (.iconst 1, 1) := by decide +kernel
theorem dX11_wordRefusal_26 : decode cX11_wordRefusal 26 = .ok (.ireturn, 1) := by decide +kernel
theorem dX11_wordRefusal_27 : decode cX11_wordRefusal 27 = .ok (.aload_n 0, 1) := by decide +kernel
theorem dX11_wordRefusal_28 : decode cX11_wordRefusal 28 = .ok (.getfield 10, 3) := by decide +kernel
theorem dX11_wordRefusal_31 : decode cX11_wordRefusal 31 = .ok (.iload_n 2, 1) := by decide +kernel
theorem dX11_wordRefusal_32 : decode cX11_wordRefusal 32 = .ok (.invokevirtual 351, 3) := by decide +kernel
theorem dX11_wordRefusal_35 : decode cX11_wordRefusal 35 = .ok (.ifCond .eq 5, 3) := by decide +kernel
theorem dX11_wordRefusal_38 : decode cX11_wordRefusal 38 = .ok (.iconst 2, 1) := by decide +kernel
theorem dX11_wordRefusal_39 : decode cX11_wordRefusal 39 = .ok (.ireturn, 1) := by decide +kernel
def ws_c_X11_wordRefusal : List Cond := .code yX11_wordRefusal cX11_wordRefusal 7 (some .int) :: ([.fieldLink "NestedChecker" 10 "NestedChecker" "trays" "LNestedChecker$Trays;", .code ⟨"NestedChecker$Trays", "has", "(I)Z"⟩ cX9_has 2 (some .boolean), .code ⟨"NestedChecker", "within", "(III)Z"⟩ cX11_within 3 (some .boolean), .initialized "NestedChecker", .static ⟨"NestedChecker", "within", "(III)Z"⟩, .initialized "NestedChecker$Trays", .instanceMethod ⟨"NestedChecker$Trays", "has", "(I)Z"⟩, .selects "NestedChecker$Trays" ⟨"NestedChecker$Trays", "has", "(I)Z"⟩ ⟨"NestedChecker$Trays", "has", "(I)Z"⟩, .methodLink "NestedChecker" 83 ⟨"NestedChecker$Trays", "has", "(I)Z"⟩, .methodLink "NestedChecker" 87 ⟨"NestedChecker", "within", "(III)Z"⟩, .code ⟨"NestedChecker$Trays", "isMissing", "(I)Z"⟩ cX9_isMissing 2 (some .boolean), .fieldLink "NestedChecker$Trays" 19 "NestedChecker$Trays" "places" "[I", .instanceMethod ⟨"NestedChecker$Trays", "isMissing", "(I)Z"⟩, .selects "NestedChecker$Trays" ⟨"NestedChecker$Trays", "isMissing", "(I)Z"⟩ ⟨"NestedChecker$Trays", "isMissing", "(I)Z"⟩, .methodLink "NestedChecker" 351 ⟨"NestedChecker$Trays", "isMissing", "(I)Z"⟩] ++ wsX110 ++ wsX90)
set_option maxRecDepth 20000 in
theorem g_c_X11_wordRefusal_c_X9_has : GoodIn ws_c_X11_wordRefusal ws_c_X9_has := goodIn_r _ [2, 3, 4, 5] (by decide +kernel) (by decide +kernel)
set_option maxRecDepth 20000 in
theorem g_c_X11_wordRefusal_c_X11_within : GoodIn ws_c_X11_wordRefusal ws_c_X11_within := goodIn_r _ [3] (by decide +kernel) (by decide +kernel)
set_option maxRecDepth 20000 in
theorem g_c_X11_wordRefusal_c_X9_isMissing : GoodIn ws_c_X11_wordRefusal ws_c_X9_isMissing := goodIn_r _ [11, 12, 31, 32, 33] (by decide +kernel) (by decide +kernel)
set_option maxHeartbeats 4000000 in
set_option maxRecDepth 100000 in
theorem c_X11_wordRefusal (l : Launch) (D : va_G) (k : jK) (h0 : Nat) (a2 : Nat) (a4 : Nat) (a5 : Nat) (a6 : Nat) (a7 : Nat) (a8 : Nat) (a9 : Nat) (a10 : Nat) (t0 : Nat) (s0 : Nat) (t1 : Nat) (t2 : Nat) (t3 : Nat) (fp : Nat → Int32) (y1 : Int32) (y2 : Int32) (y3 : Int32) (sz : Nat) (hp : ∀ j, j < 4 → fp j = -1) : Met l yX11_wordRefusal ws_c_X11_wordRefusal ({ frames := 2, cells := 0, slots := 0, locals := 43 }) (jy_P [.ref h0, .int y1, .int y2, .int y3] D vwCl (jT k) jW [(h0, .inr (10, [.int 0, .long 0, .long 1, .ref t0, .ref a2, .ref s0, .ref a4, .int 0, .ref a5, .ref a6, .ref a7, .ref a8, .ref a9, .ref a10, .int 0])), (t0, .inr (8, [.ref t1, .ref t2, .ref t3])), (t3, .inl (k.2.1, 4, .inl fp))] sz) (vp_Si (fun (r : Int32) => ¬ r = 0)) 0 0 (fun _ => False) := by
  refine jy_metS (cc := cX11_wordRefusal) (maxL := 7) (ret := (some .int)) (lv := [(0, .ref h0), (1, .int y1), (2, .int y2), (3, .int y3)]) (by decide) rfl (Nat.le_of_ble_eq_true rfl) rfl ?_
  intro p e s m below meth c F hr hlk hN
  have hiX11 : ∀ w ∈ u_ws RX11 TX11 15, w ∈ ws_c_X11_wordRefusal := fun w hw => List.mem_cons_of_mem _ (List.mem_append_left _ (List.mem_append_right _ hw))
  have hiX9 : ∀ w ∈ u_ws RX9 TX9 3, w ∈ ws_c_X11_wordRefusal := fun w hw => List.mem_cons_of_mem _ (List.mem_append_right _ hw)
  refine jy_iload_n (pc' := 1) F 1 dX11_wordRefusal_0 rfl rfl rfl ?_
  refine jy_if_eq (pc' := 4) (tgt := 25) F dX11_wordRefusal_1 (by decide) rfl (fun h_1 => ?_) (fun h_1 => ?_)
  · refine jy_iconst (pc' := 26) (v := 1) F dX11_wordRefusal_25 (by decide) rfl ?_
    exact jy_iretS (v := 1) F hr hlk (by decide) dX11_wordRefusal_26
  · refine jy_aload_n (pc' := 5) F 0 dX11_wordRefusal_4 rfl rfl rfl ?_
    refine jy_get (pc' := 8) (C := RX11) (T := TX11) (N := 15) (ci := 10) (v := .ref t0) F hiX11 0 rfl rfl 3 (by decide) dX11_wordRefusal_5 (List.mem_of_getElem? (i := 1) rfl) rfl rfl ?_
    refine jy_iload_n (pc' := 9) F 2 dX11_wordRefusal_8 rfl rfl rfl ?_
    refine jy_callSi (pc' := 12) (jy_runV (As := [.int y2]) (b := t0) (q0 := 1) (ci := 8) (C := RX9) (T := TX9) (N := 3) (st := []) F hN (fun sz => c_X9_has l D k t0 t1 t2 t3 y2 sz ) (jy_cV F g_c_X11_wordRefusal_c_X9_has rfl hdX9_has (List.mem_of_getElem? (i := 6) rfl) (List.mem_of_getElem? (i := 9) rfl) (List.mem_of_getElem? (i := 7) rfl) (List.mem_of_getElem? (i := 8) rfl) rfl rfl ⟨by decide, by decide⟩) rfl rfl [1] rfl (by decide) rfl rfl (Nat.le_of_ble_eq_true rfl) dX11_wordRefusal_9 ⟨by decide, by decide⟩) rfl (fun r_2 e_3 => ?_)
    rcases e_3 with ⟨z_5, h_4⟩ | ⟨z_6, h_4⟩
    · subst z_5
      refine jy_if_eq (pc' := 15) (tgt := 25) F dX11_wordRefusal_12 (by decide) rfl (fun h => absurd h (by decide)) (fun _ => ?_)
      refine jy_iload_n (pc' := 16) F 3 dX11_wordRefusal_15 rfl rfl rfl ?_
      refine jy_iconst (pc' := 17) (v := 0) F dX11_wordRefusal_16 (by decide) rfl ?_
      refine jy_bipush (pc' := 19) (v := 20) F dX11_wordRefusal_17 (by decide) rfl ?_
      refine jy_callSi (pc' := 22) (jy_runS (As := [.int y3, .int 0, .int 20]) (st := []) F hN (fun sz => c_X11_within l D k y3 0 20 sz ) (jy_cS F g_c_X11_wordRefusal_c_X11_within rfl hdX11_within (List.mem_of_getElem? (i := 4) rfl) (List.mem_of_getElem? (i := 10) rfl) (List.mem_of_getElem? (i := 5) rfl) rfl rfl ⟨by decide, by decide⟩) [] rfl (by decide) rfl rfl (Nat.le_of_ble_eq_true rfl) dX11_wordRefusal_19 ⟨by decide, by decide⟩) rfl (fun r_8 e_9 => ?_)
      rcases e_9 with ⟨z_11, h_10⟩ | ⟨z_12, h_10⟩
      · subst z_11
        refine jy_if_ne (pc' := 25) (tgt := 27) F dX11_wordRefusal_22 (by decide) rfl (fun _ => ?_) (fun h => absurd h (by decide))
        obtain ⟨tt, htt, rfl⟩ := nI_of2 (M := 3) (n := 3) rfl h_4.1 (Int32.not_lt.mp h_4.2)
        refine jy_aload_n (pc' := 28) F 0 dX11_wordRefusal_27 rfl rfl rfl ?_
        refine jy_get (pc' := 31) (C := RX11) (T := TX11) (N := 15) (ci := 10) (v := .ref t0) F hiX11 0 rfl rfl 3 (by decide) dX11_wordRefusal_28 (List.mem_of_getElem? (i := 1) rfl) rfl rfl ?_
        refine jy_iload_n (pc' := 32) F 2 dX11_wordRefusal_31 rfl rfl rfl ?_
        refine jy_callSi (pc' := 35) (jy_runV (As := [.int (nI tt)]) (b := t0) (q0 := 1) (ci := 8) (C := RX9) (T := TX9) (N := 3) (st := []) F hN (fun sz => c_X9_isMissing l D k t0 t1 t2 t3 fp tt sz (hp) (by omega)) (jy_cV F g_c_X11_wordRefusal_c_X9_isMissing rfl hdX9_isMissing (List.mem_of_getElem? (i := 6) rfl) (List.mem_of_getElem? (i := 15) rfl) (List.mem_of_getElem? (i := 13) rfl) (List.mem_of_getElem? (i := 14) rfl) rfl rfl ⟨by decide, by decide⟩) rfl rfl [1, 2] rfl (by decide) rfl rfl (Nat.le_of_ble_eq_true rfl) dX11_wordRefusal_32 ⟨by decide, by decide⟩) rfl (fun r_14 e_15 => ?_)
        subst e_15
        refine jy_if_eq (pc' := 38) (tgt := 40) F dX11_wordRefusal_35 (by decide) rfl (fun h => absurd h (by decide)) (fun _ => ?_)
        refine jy_iconst (pc' := 39) (v := 2) F dX11_wordRefusal_38 (by decide) rfl ?_
        exact jy_iretS (v := 2) F hr hlk (by decide) dX11_wordRefusal_39
      · subst z_12
        refine jy_if_ne (pc' := 25) (tgt := 27) F dX11_wordRefusal_22 (by decide) rfl (fun h => absurd h (by decide)) (fun _ => ?_)
        refine jy_iconst (pc' := 26) (v := 1) F dX11_wordRefusal_25 (by decide) rfl ?_
        exact jy_iretS (v := 1) F hr hlk (by decide) dX11_wordRefusal_26
    · subst z_6
      refine jy_if_eq (pc' := 15) (tgt := 25) F dX11_wordRefusal_12 (by decide) rfl (fun _ => ?_) (fun h => absurd h (by decide))
      refine jy_iconst (pc' := 26) (v := 1) F dX11_wordRefusal_25 (by decide) rfl ?_
      exact jy_iretS (v := 1) F hr hlk (by decide) dX11_wordRefusal_26
abbrev cX11_tableRefusal : ByteArray := prog_1_method_66_code
def yX11_tableRefusal : MethodName := ⟨RX11, "tableRefusal", "(ZI)I"⟩
theorem hdX11_tableRefusal : yX11_tableRefusal.cls ≠ "java/lang/invoke/MethodHandle" ∧ yX11_tableRefusal.cls ≠ "java/lang/invoke/VarHandle" ∧ (parseMethodDescriptor yX11_tableRefusal.desc).map (fun d => d.parameters.length) = some 2 := by decide +kernel
theorem dX11_tableRefusal_0 : decode cX11_tableRefusal 0 = .ok (.iload_n 1, 1) := by decide +kernel
theorem dX11_tableRefusal_1 : decode cX11_tableRefusal 1 = .ok (.ifCond .ne 5, 3) := by decide +kernel
theorem dX11_tableRefusal_4 : decode cX11_tableRefusal 4 = .ok (.iconst 1, 1) := by decide +kernel
theorem dX11_tableRefusal_5 : decode cX11_tableRefusal 5 = .ok (.ireturn, 1) := by decide +kernel
def ws_c_X11_tableRefusal : List Cond := .code yX11_tableRefusal cX11_tableRefusal 3 (some .int) :: ([])
set_option maxHeartbeats 4000000 in
set_option maxRecDepth 100000 in
theorem c_X11_tableRefusal (l : Launch) (D : va_G) (k : jK) (h0 : Nat) (a2 : Nat) (a4 : Nat) (a5 : Nat) (a6 : Nat) (a7 : Nat) (a8 : Nat) (a9 : Nat) (a10 : Nat) (t0 : Nat) (s0 : Nat) (y2 : Int32) (sz : Nat)  : Met l yX11_tableRefusal ws_c_X11_tableRefusal ({ frames := 0, cells := 0, slots := 0, locals := 0 }) (jy_P [.ref h0, .int 0, .int y2] D vwCl (jT k) jW [(h0, .inr (10, [.int 0, .long 0, .long 1, .ref t0, .ref a2, .ref s0, .ref a4, .int 0, .ref a5, .ref a6, .ref a7, .ref a8, .ref a9, .ref a10, .int 0]))] sz) (vp_Si (fun (r : Int32) => r = 1)) 0 0 (fun _ => False) := by
  refine jy_metS (cc := cX11_tableRefusal) (maxL := 3) (ret := (some .int)) (lv := [(0, .ref h0), (1, .int 0), (2, .int y2)]) (by decide) rfl (Nat.le_of_ble_eq_true rfl) rfl ?_
  intro p e s m below meth c F hr hlk hN
  refine jy_iload_n (pc' := 1) F 1 dX11_tableRefusal_0 rfl rfl rfl ?_
  refine jy_if_ne (pc' := 4) (tgt := 6) F dX11_tableRefusal_1 (by decide) rfl (fun h => absurd h (by decide)) (fun _ => ?_)
  refine jy_iconst (pc' := 5) (v := 1) F dX11_tableRefusal_4 (by decide) rfl ?_
  exact jy_iretS (v := 1) F hr hlk (rfl) dX11_tableRefusal_5
abbrev cX11_summaryRefusal : ByteArray := prog_1_method_67_code
def yX11_summaryRefusal : MethodName := ⟨RX11, "summaryRefusal", "(ZII)I"⟩
theorem hdX11_summaryRefusal : yX11_summaryRefusal.cls ≠ "java/lang/invoke/MethodHandle" ∧ yX11_summaryRefusal.cls ≠ "java/lang/invoke/VarHandle" ∧ (parseMethodDescriptor yX11_summaryRefusal.desc).map (fun d => d.parameters.length) = some 3 := by decide +kernel
theorem dX11_summaryRefusal_0 : decode cX11_summaryRefusal 0 = .ok (.iload_n 1, 1) := by decide +kernel
theorem dX11_summaryRefusal_1 : decode cX11_summaryRefusal 1 = .ok (.ifCond .ne 5, 3) := by decide +kernel
theorem dX11_summaryRefusal_4 : decode cX11_summaryRefusal 4 = .ok (.iconst 1, 1) := by decide +kernel
theorem dX11_summaryRefusal_5 : decode cX11_summaryRefusal 5 = .ok (.ireturn, 1) := by decide +kernel
def ws_c_X11_summaryRefusal : List Cond := .code yX11_summaryRefusal cX11_summaryRefusal 5 (some .int) :: ([])
set_option maxHeartbeats 4000000 in
set_option maxRecDepth 100000 in
theorem c_X11_summaryRefusal (l : Launch) (D : va_G) (k : jK) (h0 : Nat) (a2 : Nat) (a4 : Nat) (a5 : Nat) (a6 : Nat) (a7 : Nat) (a8 : Nat) (a9 : Nat) (a10 : Nat) (t0 : Nat) (s0 : Nat) (y2 : Int32) (y3 : Int32) (sz : Nat)  : Met l yX11_summaryRefusal ws_c_X11_summaryRefusal ({ frames := 0, cells := 0, slots := 0, locals := 0 }) (jy_P [.ref h0, .int 0, .int y2, .int y3] D vwCl (jT k) jW [(h0, .inr (10, [.int 0, .long 0, .long 1, .ref t0, .ref a2, .ref s0, .ref a4, .int 0, .ref a5, .ref a6, .ref a7, .ref a8, .ref a9, .ref a10, .int 0]))] sz) (vp_Si (fun (r : Int32) => r = 1)) 0 0 (fun _ => False) := by
  refine jy_metS (cc := cX11_summaryRefusal) (maxL := 5) (ret := (some .int)) (lv := [(0, .ref h0), (1, .int 0), (2, .int y2), (3, .int y3)]) (by decide) rfl (Nat.le_of_ble_eq_true rfl) rfl ?_
  intro p e s m below meth c F hr hlk hN
  refine jy_iload_n (pc' := 1) F 1 dX11_summaryRefusal_0 rfl rfl rfl ?_
  refine jy_if_ne (pc' := 4) (tgt := 6) F dX11_summaryRefusal_1 (by decide) rfl (fun h => absurd h (by decide)) (fun _ => ?_)
  refine jy_iconst (pc' := 5) (v := 1) F dX11_summaryRefusal_4 (by decide) rfl ?_
  exact jy_iretS (v := 1) F hr hlk (rfl) dX11_summaryRefusal_5
abbrev cX11_start : ByteArray := prog_1_method_17_code
def yX11_start : MethodName := ⟨RX11, "start", "(IIZ)I"⟩
theorem hdX11_start : yX11_start.cls ≠ "java/lang/invoke/MethodHandle" ∧ yX11_start.cls ≠ "java/lang/invoke/VarHandle" ∧ (parseMethodDescriptor yX11_start.desc).map (fun d => d.parameters.length) = some 3 := by decide +kernel
theorem dX11_start_0 : decode cX11_start 0 = .ok (.aload_n 0, 1) := by decide +kernel
theorem dX11_start_1 : decode cX11_start 1 = .ok (.iload_n 1, 1) := by decide +kernel
theorem dX11_start_2 : decode cX11_start 2 = .ok (.iload_n 2, 1) := by decide +kernel
theorem dX11_start_3 : decode cX11_start 3 = .ok (.invokevirtual 215, 3) := by decide +kernel
theorem dX11_start_6 : decode cX11_start 6 = .ok (.ifCond .ne 9, 3) := by decide +kernel
theorem dX11_start_9 : decode cX11_start 9 = .ok (.aload_n 0, 1) := by decide +kernel
theorem dX11_start_10 : decode cX11_start 10 = .ok (.iconst 1, 1) := by decide +kernel
theorem dX11_start_11 : decode cX11_start 11 = .ok (.invokevirtual 110, 3) := by decide +kernel
theorem dX11_start_14 : decode cX11_start 14 = .ok (.ireturn, 1) := by decide +kernel
def ws_c_X11_start : List Cond := .code yX11_start cX11_start 6 (some .int) :: ([.code ⟨"NestedChecker", "hasState", "(II)Z"⟩ cX11_hasState 3 (some .boolean), .fieldLink "NestedChecker" 26 "NestedChecker" "live" "LNestedChecker$Setting;", .code ⟨"NestedChecker$Setting", "has", "(I)Z"⟩ cX5_has 2 (some .boolean), .fieldLink "NestedChecker$Setting" 38 "NestedChecker$Setting" "automata" "I", .initialized "NestedChecker$Setting", .instanceMethod ⟨"NestedChecker$Setting", "has", "(I)Z"⟩, .selects "NestedChecker$Setting" ⟨"NestedChecker$Setting", "has", "(I)Z"⟩ ⟨"NestedChecker$Setting", "has", "(I)Z"⟩, .methodLink "NestedChecker" 163 ⟨"NestedChecker$Setting", "has", "(I)Z"⟩, .initialized "NestedChecker", .instanceMethod ⟨"NestedChecker", "hasState", "(II)Z"⟩, .selects "NestedChecker" ⟨"NestedChecker", "hasState", "(II)Z"⟩ ⟨"NestedChecker", "hasState", "(II)Z"⟩, .methodLink "NestedChecker" 215 ⟨"NestedChecker", "hasState", "(II)Z"⟩, .code ⟨"NestedChecker", "refuse", "(I)I"⟩ cX11_refuse 2 (some .int), .fieldLink "NestedChecker" 72 "NestedChecker" "lastStatus" "I", .instanceMethod ⟨"NestedChecker", "refuse", "(I)I"⟩, .selects "NestedChecker" ⟨"NestedChecker", "refuse", "(I)I"⟩ ⟨"NestedChecker", "refuse", "(I)I"⟩, .methodLink "NestedChecker" 110 ⟨"NestedChecker", "refuse", "(I)I"⟩] ++ wsX110 ++ wsX50)
set_option maxRecDepth 20000 in
theorem g_c_X11_start_c_X11_hasState : GoodIn ws_c_X11_start ws_c_X11_hasState := goodIn_r _ [1, 2, 3, 4, 5, 6, 7, 8, 18, 19, 20, 21, 22, 23, 24, 25, 26, 27, 28, 29, 30, 31, 32, 33, 34, 35, 36, 37, 38, 39] (by decide +kernel) (by decide +kernel)
set_option maxRecDepth 20000 in
theorem g_c_X11_start_c_X11_refuse : GoodIn ws_c_X11_start ws_c_X11_refuse := goodIn_r _ [13, 14, 18, 19, 20, 21, 22, 23, 24, 25, 26, 27, 28, 29, 30, 31, 32] (by decide +kernel) (by decide +kernel)
set_option maxHeartbeats 4000000 in
set_option maxRecDepth 100000 in
theorem c_X11_start (l : Launch) (D : va_G) (k : jK) (h0 : Nat) (a2 : Nat) (a4 : Nat) (a5 : Nat) (a6 : Nat) (a7 : Nat) (a8 : Nat) (a9 : Nat) (a10 : Nat) (t0 : Nat) (s0 : Nat) (s1 : Nat) (s2 : Nat) (s3 : Nat) (i1 : Int32) (i2 : Int32) (i3 : Int32) (sz : Nat)  : Met l yX11_start ws_c_X11_start ({ frames := 2, cells := 0, slots := 0, locals := 43 }) (jy_P [.ref h0, .int i1, .int i2, .int i3] D vwCl (jT k) jW [(h0, .inr (10, [.int 0, .long 0, .long 1, .ref t0, .ref a2, .ref s0, .ref a4, .int 0, .ref a5, .ref a6, .ref a7, .ref a8, .ref a9, .ref a10, .int 0])), (s0, .inr (4, [.int 0, .int 0, .int 0, .int 0, .ref s1, .ref s2, .ref s3]))] sz) (va_Qi (fun (r : Int32) (u : Unit) => r = -1) (jy_B D vwCl (va_A [(h0, .inr (10, [.int 0, .long 0, .long 1, .ref t0, .ref a2, .ref s0, .ref a4, .int 0, .ref a5, .ref a6, .ref a7, .ref a8, .ref a9, .ref a10, .int 0])), (s0, .inr (4, [.int 0, .int 0, .int 0, .int 0, .ref s1, .ref s2, .ref s3]))] sz) (fun (u : Unit) => [])) (va_A [(h0, .inr (10, [.int 0, .long 0, .long 1, .ref t0, .ref a2, .ref s0, .ref a4, .int 0, .ref a5, .ref a6, .ref a7, .ref a8, .ref a9, .ref a10, .int 0])), (s0, .inr (4, [.int 0, .int 0, .int 0, .int 0, .ref s1, .ref s2, .ref s3]))] sz)) 0 0 (va_A [(h0, .inr (10, [.int 0, .long 0, .long 1, .ref t0, .ref a2, .ref s0, .ref a4, .int 0, .ref a5, .ref a6, .ref a7, .ref a8, .ref a9, .ref a10, .int 0])), (s0, .inr (4, [.int 0, .int 0, .int 0, .int 0, .ref s1, .ref s2, .ref s3]))] sz) := by
  refine jy_met (cc := cX11_start) (maxL := 6) (ret := (some .int)) (lv := [(0, .ref h0), (1, .int i1), (2, .int i2), (3, .int i3)]) (by decide) rfl (Nat.le_of_ble_eq_true rfl) rfl ?_
  intro p e s m below meth c F hr hlk hnm hN hA
  have hiX11 : ∀ w ∈ u_ws RX11 TX11 15, w ∈ ws_c_X11_start := fun w hw => List.mem_cons_of_mem _ (List.mem_append_left _ (List.mem_append_right _ hw))
  have hiX5 : ∀ w ∈ u_ws RX5 TX5 7, w ∈ ws_c_X11_start := fun w hw => List.mem_cons_of_mem _ (List.mem_append_right _ hw)
  refine jy_aload_n (pc' := 1) F 0 dX11_start_0 rfl rfl rfl ?_
  refine jy_iload_n (pc' := 2) F 1 dX11_start_1 rfl rfl rfl ?_
  refine jy_iload_n (pc' := 3) F 2 dX11_start_2 rfl rfl rfl ?_
  refine jy_callSi (pc' := 6) (jy_runV (As := [.int i1, .int i2]) (b := h0) (q0 := 0) (ci := 10) (C := RX11) (T := TX11) (N := 15) (st := []) F hN (fun sz => c_X11_hasState l D k h0 a2 a4 a5 a6 a7 a8 a9 a10 t0 s0 s1 s2 s3 i1 i2 sz ) (jy_cV F g_c_X11_start_c_X11_hasState rfl hdX11_hasState (List.mem_of_getElem? (i := 9) rfl) (List.mem_of_getElem? (i := 12) rfl) (List.mem_of_getElem? (i := 10) rfl) (List.mem_of_getElem? (i := 11) rfl) rfl rfl ⟨by decide, by decide⟩) rfl rfl [0, 1] rfl (by decide) rfl rfl (Nat.le_of_ble_eq_true rfl) dX11_start_3 ⟨by decide, by decide⟩) rfl (fun r_1 e_2 => ?_)
  subst e_2
  refine jy_if_ne (pc' := 9) (tgt := 15) F dX11_start_6 (by decide) rfl (fun h => absurd h (by decide)) (fun _ => ?_)
  refine jy_aload_n (pc' := 10) F 0 dX11_start_9 rfl rfl rfl ?_
  refine jy_iconst (pc' := 11) (v := 1) F dX11_start_10 (by decide) rfl ?_
  refine jy_calli (pc' := 14) (cells' := 0) (slots' := 0) (wr := [(s0, .inr (4, [.int 0, .int 0, .int 0, .int 0, .ref s1, .ref s2, .ref s3]))]) hA [0] [1] rfl rfl (by decide) (by decide) (jy_runV (As := [.int 1]) (b := h0) (q0 := 0) (ci := 10) (C := RX11) (T := TX11) (N := 15) (st := []) F hN (fun sz => c_X11_refuse l D k h0 0 (.long 0) (.long 1) (.ref t0) (.ref a2) (.ref s0) (.ref a4) (.int 0) (.ref a5) (.ref a6) (.ref a7) (.ref a8) (.ref a9) (.ref a10) (.int 0) 1 sz ) (jy_cV F g_c_X11_start_c_X11_refuse rfl hdX11_refuse (List.mem_of_getElem? (i := 9) rfl) (List.mem_of_getElem? (i := 17) rfl) (List.mem_of_getElem? (i := 15) rfl) (List.mem_of_getElem? (i := 16) rfl) rfl rfl ⟨by decide, by decide⟩) rfl rfl [0] rfl (by decide) rfl rfl (Nat.le_of_ble_eq_true rfl) dX11_start_11 ⟨by decide, by decide⟩) rfl rfl rfl (fun r_6 u_4 e_5 => ?_)
  subst e_5
  refine jy_widen (cells' := 0) (slots' := 0) (by decide) (by decide) ?_
  exact jy_iret (v := (-1)) F hr hlk () (rfl) [] rfl (by decide) dX11_start_14
abbrev cX11_accept : ByteArray := prog_1_method_18_code
def yX11_accept : MethodName := ⟨RX11, "accept", "(IIZ)I"⟩
theorem hdX11_accept : yX11_accept.cls ≠ "java/lang/invoke/MethodHandle" ∧ yX11_accept.cls ≠ "java/lang/invoke/VarHandle" ∧ (parseMethodDescriptor yX11_accept.desc).map (fun d => d.parameters.length) = some 3 := by decide +kernel
theorem dX11_accept_0 : decode cX11_accept 0 = .ok (.aload_n 0, 1) := by decide +kernel
theorem dX11_accept_1 : decode cX11_accept 1 = .ok (.iload_n 1, 1) := by decide +kernel
theorem dX11_accept_2 : decode cX11_accept 2 = .ok (.iload_n 2, 1) := by decide +kernel
theorem dX11_accept_3 : decode cX11_accept 3 = .ok (.invokevirtual 215, 3) := by decide +kernel
theorem dX11_accept_6 : decode cX11_accept 6 = .ok (.ifCond .ne 9, 3) := by decide +kernel
theorem dX11_accept_9 : decode cX11_accept 9 = .ok (.aload_n 0, 1) := by decide +kernel
theorem dX11_accept_10 : decode cX11_accept 10 = .ok (.iconst 1, 1) := by decide +kernel
theorem dX11_accept_11 : decode cX11_accept 11 = .ok (.invokevirtual 110, 3) := by decide +kernel
theorem dX11_accept_14 : decode cX11_accept 14 = .ok (.ireturn, 1) := by decide +kernel
def ws_c_X11_accept : List Cond := .code yX11_accept cX11_accept 6 (some .int) :: ([.code ⟨"NestedChecker", "hasState", "(II)Z"⟩ cX11_hasState 3 (some .boolean), .fieldLink "NestedChecker" 26 "NestedChecker" "live" "LNestedChecker$Setting;", .code ⟨"NestedChecker$Setting", "has", "(I)Z"⟩ cX5_has 2 (some .boolean), .fieldLink "NestedChecker$Setting" 38 "NestedChecker$Setting" "automata" "I", .initialized "NestedChecker$Setting", .instanceMethod ⟨"NestedChecker$Setting", "has", "(I)Z"⟩, .selects "NestedChecker$Setting" ⟨"NestedChecker$Setting", "has", "(I)Z"⟩ ⟨"NestedChecker$Setting", "has", "(I)Z"⟩, .methodLink "NestedChecker" 163 ⟨"NestedChecker$Setting", "has", "(I)Z"⟩, .initialized "NestedChecker", .instanceMethod ⟨"NestedChecker", "hasState", "(II)Z"⟩, .selects "NestedChecker" ⟨"NestedChecker", "hasState", "(II)Z"⟩ ⟨"NestedChecker", "hasState", "(II)Z"⟩, .methodLink "NestedChecker" 215 ⟨"NestedChecker", "hasState", "(II)Z"⟩, .code ⟨"NestedChecker", "refuse", "(I)I"⟩ cX11_refuse 2 (some .int), .fieldLink "NestedChecker" 72 "NestedChecker" "lastStatus" "I", .instanceMethod ⟨"NestedChecker", "refuse", "(I)I"⟩, .selects "NestedChecker" ⟨"NestedChecker", "refuse", "(I)I"⟩ ⟨"NestedChecker", "refuse", "(I)I"⟩, .methodLink "NestedChecker" 110 ⟨"NestedChecker", "refuse", "(I)I"⟩] ++ wsX110 ++ wsX50)
set_option maxRecDepth 20000 in
theorem g_c_X11_accept_c_X11_hasState : GoodIn ws_c_X11_accept ws_c_X11_hasState := goodIn_r _ [1, 2, 3, 4, 5, 6, 7, 8, 18, 19, 20, 21, 22, 23, 24, 25, 26, 27, 28, 29, 30, 31, 32, 33, 34, 35, 36, 37, 38, 39] (by decide +kernel) (by decide +kernel)
set_option maxRecDepth 20000 in
theorem g_c_X11_accept_c_X11_refuse : GoodIn ws_c_X11_accept ws_c_X11_refuse := goodIn_r _ [13, 14, 18, 19, 20, 21, 22, 23, 24, 25, 26, 27, 28, 29, 30, 31, 32] (by decide +kernel) (by decide +kernel)
set_option maxHeartbeats 4000000 in
set_option maxRecDepth 100000 in
theorem c_X11_accept (l : Launch) (D : va_G) (k : jK) (h0 : Nat) (a2 : Nat) (a4 : Nat) (a5 : Nat) (a6 : Nat) (a7 : Nat) (a8 : Nat) (a9 : Nat) (a10 : Nat) (t0 : Nat) (s0 : Nat) (s1 : Nat) (s2 : Nat) (s3 : Nat) (i1 : Int32) (i2 : Int32) (i3 : Int32) (sz : Nat)  : Met l yX11_accept ws_c_X11_accept ({ frames := 2, cells := 0, slots := 0, locals := 43 }) (jy_P [.ref h0, .int i1, .int i2, .int i3] D vwCl (jT k) jW [(h0, .inr (10, [.int 0, .long 0, .long 1, .ref t0, .ref a2, .ref s0, .ref a4, .int 0, .ref a5, .ref a6, .ref a7, .ref a8, .ref a9, .ref a10, .int 0])), (s0, .inr (4, [.int 0, .int 0, .int 0, .int 0, .ref s1, .ref s2, .ref s3]))] sz) (va_Qi (fun (r : Int32) (u : Unit) => r = -1) (jy_B D vwCl (va_A [(h0, .inr (10, [.int 0, .long 0, .long 1, .ref t0, .ref a2, .ref s0, .ref a4, .int 0, .ref a5, .ref a6, .ref a7, .ref a8, .ref a9, .ref a10, .int 0])), (s0, .inr (4, [.int 0, .int 0, .int 0, .int 0, .ref s1, .ref s2, .ref s3]))] sz) (fun (u : Unit) => [])) (va_A [(h0, .inr (10, [.int 0, .long 0, .long 1, .ref t0, .ref a2, .ref s0, .ref a4, .int 0, .ref a5, .ref a6, .ref a7, .ref a8, .ref a9, .ref a10, .int 0])), (s0, .inr (4, [.int 0, .int 0, .int 0, .int 0, .ref s1, .ref s2, .ref s3]))] sz)) 0 0 (va_A [(h0, .inr (10, [.int 0, .long 0, .long 1, .ref t0, .ref a2, .ref s0, .ref a4, .int 0, .ref a5, .ref a6, .ref a7, .ref a8, .ref a9, .ref a10, .int 0])), (s0, .inr (4, [.int 0, .int 0, .int 0, .int 0, .ref s1, .ref s2, .ref s3]))] sz) := by
  refine jy_met (cc := cX11_accept) (maxL := 6) (ret := (some .int)) (lv := [(0, .ref h0), (1, .int i1), (2, .int i2), (3, .int i3)]) (by decide) rfl (Nat.le_of_ble_eq_true rfl) rfl ?_
  intro p e s m below meth c F hr hlk hnm hN hA
  have hiX11 : ∀ w ∈ u_ws RX11 TX11 15, w ∈ ws_c_X11_accept := fun w hw => List.mem_cons_of_mem _ (List.mem_append_left _ (List.mem_append_right _ hw))
  have hiX5 : ∀ w ∈ u_ws RX5 TX5 7, w ∈ ws_c_X11_accept := fun w hw => List.mem_cons_of_mem _ (List.mem_append_right _ hw)
  refine jy_aload_n (pc' := 1) F 0 dX11_accept_0 rfl rfl rfl ?_
  refine jy_iload_n (pc' := 2) F 1 dX11_accept_1 rfl rfl rfl ?_
  refine jy_iload_n (pc' := 3) F 2 dX11_accept_2 rfl rfl rfl ?_
  refine jy_callSi (pc' := 6) (jy_runV (As := [.int i1, .int i2]) (b := h0) (q0 := 0) (ci := 10) (C := RX11) (T := TX11) (N := 15) (st := []) F hN (fun sz => c_X11_hasState l D k h0 a2 a4 a5 a6 a7 a8 a9 a10 t0 s0 s1 s2 s3 i1 i2 sz ) (jy_cV F g_c_X11_accept_c_X11_hasState rfl hdX11_hasState (List.mem_of_getElem? (i := 9) rfl) (List.mem_of_getElem? (i := 12) rfl) (List.mem_of_getElem? (i := 10) rfl) (List.mem_of_getElem? (i := 11) rfl) rfl rfl ⟨by decide, by decide⟩) rfl rfl [0, 1] rfl (by decide) rfl rfl (Nat.le_of_ble_eq_true rfl) dX11_accept_3 ⟨by decide, by decide⟩) rfl (fun r_1 e_2 => ?_)
  subst e_2
  refine jy_if_ne (pc' := 9) (tgt := 15) F dX11_accept_6 (by decide) rfl (fun h => absurd h (by decide)) (fun _ => ?_)
  refine jy_aload_n (pc' := 10) F 0 dX11_accept_9 rfl rfl rfl ?_
  refine jy_iconst (pc' := 11) (v := 1) F dX11_accept_10 (by decide) rfl ?_
  refine jy_calli (pc' := 14) (cells' := 0) (slots' := 0) (wr := [(s0, .inr (4, [.int 0, .int 0, .int 0, .int 0, .ref s1, .ref s2, .ref s3]))]) hA [0] [1] rfl rfl (by decide) (by decide) (jy_runV (As := [.int 1]) (b := h0) (q0 := 0) (ci := 10) (C := RX11) (T := TX11) (N := 15) (st := []) F hN (fun sz => c_X11_refuse l D k h0 0 (.long 0) (.long 1) (.ref t0) (.ref a2) (.ref s0) (.ref a4) (.int 0) (.ref a5) (.ref a6) (.ref a7) (.ref a8) (.ref a9) (.ref a10) (.int 0) 1 sz ) (jy_cV F g_c_X11_accept_c_X11_refuse rfl hdX11_refuse (List.mem_of_getElem? (i := 9) rfl) (List.mem_of_getElem? (i := 17) rfl) (List.mem_of_getElem? (i := 15) rfl) (List.mem_of_getElem? (i := 16) rfl) rfl rfl ⟨by decide, by decide⟩) rfl rfl [0] rfl (by decide) rfl rfl (Nat.le_of_ble_eq_true rfl) dX11_accept_11 ⟨by decide, by decide⟩) rfl rfl rfl (fun r_6 u_4 e_5 => ?_)
  subst e_5
  refine jy_widen (cells' := 0) (slots' := 0) (by decide) (by decide) ?_
  exact jy_iret (v := (-1)) F hr hlk () (rfl) [] rfl (by decide) dX11_accept_14
abbrev cX11_copy : ByteArray := prog_1_method_19_code
def yX11_copy : MethodName := ⟨RX11, "copy", "(II)Z"⟩
theorem hdX11_copy : yX11_copy.cls ≠ "java/lang/invoke/MethodHandle" ∧ yX11_copy.cls ≠ "java/lang/invoke/VarHandle" ∧ (parseMethodDescriptor yX11_copy.desc).map (fun d => d.parameters.length) = some 2 := by decide +kernel
theorem dX11_copy_0 : decode cX11_copy 0 = .ok (.aload_n 0, 1) := by decide +kernel
theorem dX11_copy_1 : decode cX11_copy 1 = .ok (.iload_n 1, 1) := by decide +kernel
theorem dX11_copy_2 : decode cX11_copy 2 = .ok (.iload_n 2, 1) := by decide +kernel
theorem dX11_copy_3 : decode cX11_copy 3 = .ok (.invokevirtual 219, 3) := by decide +kernel
theorem dX11_copy_6 : decode cX11_copy 6 = .ok (.ifCond .ne 9, 3) := by decide +kernel
theorem dX11_copy_9 : decode cX11_copy 9 = .ok (.aload_n 0, 1) := by decide +kernel
theorem dX11_copy_10 : decode cX11_copy 10 = .ok (.iconst 1, 1) := by decide +kernel
theorem dX11_copy_11 : decode cX11_copy 11 = .ok (.invokevirtual 91, 3) := by decide +kernel
theorem dX11_copy_14 : decode cX11_copy 14 = .ok (.ireturn, 1) := by decide +kernel
def ws_c_X11_copy : List Cond := .code yX11_copy cX11_copy 3 (some .boolean) :: ([.code ⟨"NestedChecker", "areTwo", "(II)Z"⟩ cX11_areTwo 3 (some .boolean), .fieldLink "NestedChecker" 26 "NestedChecker" "live" "LNestedChecker$Setting;", .code ⟨"NestedChecker$Setting", "has", "(I)Z"⟩ cX5_has 2 (some .boolean), .fieldLink "NestedChecker$Setting" 38 "NestedChecker$Setting" "automata" "I", .initialized "NestedChecker$Setting", .instanceMethod ⟨"NestedChecker$Setting", "has", "(I)Z"⟩, .selects "NestedChecker$Setting" ⟨"NestedChecker$Setting", "has", "(I)Z"⟩ ⟨"NestedChecker$Setting", "has", "(I)Z"⟩, .methodLink "NestedChecker" 163 ⟨"NestedChecker$Setting", "has", "(I)Z"⟩, .initialized "NestedChecker", .instanceMethod ⟨"NestedChecker", "areTwo", "(II)Z"⟩, .selects "NestedChecker" ⟨"NestedChecker", "areTwo", "(II)Z"⟩ ⟨"NestedChecker", "areTwo", "(II)Z"⟩, .methodLink "NestedChecker" 219 ⟨"NestedChecker", "areTwo", "(II)Z"⟩, .code ⟨"NestedChecker", "deny", "(I)Z"⟩ cX11_deny 2 (some .boolean), .fieldLink "NestedChecker" 72 "NestedChecker" "lastStatus" "I", .instanceMethod ⟨"NestedChecker", "deny", "(I)Z"⟩, .selects "NestedChecker" ⟨"NestedChecker", "deny", "(I)Z"⟩ ⟨"NestedChecker", "deny", "(I)Z"⟩, .methodLink "NestedChecker" 91 ⟨"NestedChecker", "deny", "(I)Z"⟩] ++ wsX110 ++ wsX50)
set_option maxRecDepth 20000 in
theorem g_c_X11_copy_c_X11_areTwo : GoodIn ws_c_X11_copy ws_c_X11_areTwo := goodIn_r _ [1, 2, 3, 4, 5, 6, 7, 8, 18, 19, 20, 21, 22, 23, 24, 25, 26, 27, 28, 29, 30, 31, 32, 33, 34, 35, 36, 37, 38, 39] (by decide +kernel) (by decide +kernel)
set_option maxRecDepth 20000 in
theorem g_c_X11_copy_c_X11_deny : GoodIn ws_c_X11_copy ws_c_X11_deny := goodIn_r _ [13, 14, 18, 19, 20, 21, 22, 23, 24, 25, 26, 27, 28, 29, 30, 31, 32] (by decide +kernel) (by decide +kernel)
set_option maxHeartbeats 4000000 in
set_option maxRecDepth 100000 in
theorem c_X11_copy (l : Launch) (D : va_G) (k : jK) (h0 : Nat) (a2 : Nat) (a4 : Nat) (a5 : Nat) (a6 : Nat) (a7 : Nat) (a8 : Nat) (a9 : Nat) (a10 : Nat) (t0 : Nat) (s0 : Nat) (s1 : Nat) (s2 : Nat) (s3 : Nat) (i1 : Int32) (i2 : Int32) (sz : Nat)  : Met l yX11_copy ws_c_X11_copy ({ frames := 2, cells := 0, slots := 0, locals := 43 }) (jy_P [.ref h0, .int i1, .int i2] D vwCl (jT k) jW [(h0, .inr (10, [.int 0, .long 0, .long 1, .ref t0, .ref a2, .ref s0, .ref a4, .int 0, .ref a5, .ref a6, .ref a7, .ref a8, .ref a9, .ref a10, .int 0])), (s0, .inr (4, [.int 0, .int 0, .int 0, .int 0, .ref s1, .ref s2, .ref s3]))] sz) (va_Qi (fun (r : Int32) (u : Unit) => r = 0) (jy_B D vwCl (va_A [(h0, .inr (10, [.int 0, .long 0, .long 1, .ref t0, .ref a2, .ref s0, .ref a4, .int 0, .ref a5, .ref a6, .ref a7, .ref a8, .ref a9, .ref a10, .int 0])), (s0, .inr (4, [.int 0, .int 0, .int 0, .int 0, .ref s1, .ref s2, .ref s3]))] sz) (fun (u : Unit) => [])) (va_A [(h0, .inr (10, [.int 0, .long 0, .long 1, .ref t0, .ref a2, .ref s0, .ref a4, .int 0, .ref a5, .ref a6, .ref a7, .ref a8, .ref a9, .ref a10, .int 0])), (s0, .inr (4, [.int 0, .int 0, .int 0, .int 0, .ref s1, .ref s2, .ref s3]))] sz)) 0 0 (va_A [(h0, .inr (10, [.int 0, .long 0, .long 1, .ref t0, .ref a2, .ref s0, .ref a4, .int 0, .ref a5, .ref a6, .ref a7, .ref a8, .ref a9, .ref a10, .int 0])), (s0, .inr (4, [.int 0, .int 0, .int 0, .int 0, .ref s1, .ref s2, .ref s3]))] sz) := by
  refine jy_met (cc := cX11_copy) (maxL := 3) (ret := (some .boolean)) (lv := [(0, .ref h0), (1, .int i1), (2, .int i2)]) (by decide) rfl (Nat.le_of_ble_eq_true rfl) rfl ?_
  intro p e s m below meth c F hr hlk hnm hN hA
  have hiX11 : ∀ w ∈ u_ws RX11 TX11 15, w ∈ ws_c_X11_copy := fun w hw => List.mem_cons_of_mem _ (List.mem_append_left _ (List.mem_append_right _ hw))
  have hiX5 : ∀ w ∈ u_ws RX5 TX5 7, w ∈ ws_c_X11_copy := fun w hw => List.mem_cons_of_mem _ (List.mem_append_right _ hw)
  refine jy_aload_n (pc' := 1) F 0 dX11_copy_0 rfl rfl rfl ?_
  refine jy_iload_n (pc' := 2) F 1 dX11_copy_1 rfl rfl rfl ?_
  refine jy_iload_n (pc' := 3) F 2 dX11_copy_2 rfl rfl rfl ?_
  refine jy_callSi (pc' := 6) (jy_runV (As := [.int i1, .int i2]) (b := h0) (q0 := 0) (ci := 10) (C := RX11) (T := TX11) (N := 15) (st := []) F hN (fun sz => c_X11_areTwo l D k h0 a2 a4 a5 a6 a7 a8 a9 a10 t0 s0 s1 s2 s3 i1 i2 sz ) (jy_cV F g_c_X11_copy_c_X11_areTwo rfl hdX11_areTwo (List.mem_of_getElem? (i := 9) rfl) (List.mem_of_getElem? (i := 12) rfl) (List.mem_of_getElem? (i := 10) rfl) (List.mem_of_getElem? (i := 11) rfl) rfl rfl ⟨by decide, by decide⟩) rfl rfl [0, 1] rfl (by decide) rfl rfl (Nat.le_of_ble_eq_true rfl) dX11_copy_3 ⟨by decide, by decide⟩) rfl (fun r_1 e_2 => ?_)
  subst e_2
  refine jy_if_ne (pc' := 9) (tgt := 15) F dX11_copy_6 (by decide) rfl (fun h => absurd h (by decide)) (fun _ => ?_)
  refine jy_aload_n (pc' := 10) F 0 dX11_copy_9 rfl rfl rfl ?_
  refine jy_iconst (pc' := 11) (v := 1) F dX11_copy_10 (by decide) rfl ?_
  refine jy_calli (pc' := 14) (cells' := 0) (slots' := 0) (wr := [(s0, .inr (4, [.int 0, .int 0, .int 0, .int 0, .ref s1, .ref s2, .ref s3]))]) hA [0] [1] rfl rfl (by decide) (by decide) (jy_runV (As := [.int 1]) (b := h0) (q0 := 0) (ci := 10) (C := RX11) (T := TX11) (N := 15) (st := []) F hN (fun sz => c_X11_deny l D k h0 0 (.long 0) (.long 1) (.ref t0) (.ref a2) (.ref s0) (.ref a4) (.int 0) (.ref a5) (.ref a6) (.ref a7) (.ref a8) (.ref a9) (.ref a10) (.int 0) 1 sz ) (jy_cV F g_c_X11_copy_c_X11_deny rfl hdX11_deny (List.mem_of_getElem? (i := 9) rfl) (List.mem_of_getElem? (i := 17) rfl) (List.mem_of_getElem? (i := 15) rfl) (List.mem_of_getElem? (i := 16) rfl) rfl rfl ⟨by decide, by decide⟩) rfl rfl [0] rfl (by decide) rfl rfl (Nat.le_of_ble_eq_true rfl) dX11_copy_11 ⟨by decide, by decide⟩) rfl rfl rfl (fun r_6 u_4 e_5 => ?_)
  subst e_5
  refine jy_widen (cells' := 0) (slots' := 0) (by decide) (by decide) ?_
  exact jy_zret (v := 0) F hr hlk (by first | rfl | decide) () (rfl) [] rfl (by decide) dX11_copy_14
abbrev cX11_takes : ByteArray := prog_1_method_20_code
def yX11_takes : MethodName := ⟨RX11, "takes", "(III)I"⟩
theorem hdX11_takes : yX11_takes.cls ≠ "java/lang/invoke/MethodHandle" ∧ yX11_takes.cls ≠ "java/lang/invoke/VarHandle" ∧ (parseMethodDescriptor yX11_takes.desc).map (fun d => d.parameters.length) = some 3 := by decide +kernel
theorem dX11_takes_0 : decode cX11_takes 0 = .ok (.aload_n 0, 1) := by decide +kernel
theorem dX11_takes_1 : decode cX11_takes 1 = .ok (.aload_n 0, 1) := by decide +kernel
theorem dX11_takes_2 : decode cX11_takes 2 = .ok (.getfield 26, 3) := by decide +kernel
theorem dX11_takes_5 : decode cX11_takes 5 = .ok (.iload_n 1, 1) := by decide +kernel
theorem dX11_takes_6 : decode cX11_takes 6 = .ok (.invokevirtual 163, 3) := by decide +kernel
theorem dX11_takes_9 : decode cX11_takes 9 = .ok (.iload_n 2, 1) := by decide +kernel
theorem dX11_takes_10 : decode cX11_takes 10 = .ok (.iload_n 3, 1) := by decide +kernel
theorem dX11_takes_11 : decode cX11_takes 11 = .ok (.invokevirtual 226, 3) := by decide +kernel
theorem dX11_takes_14 : decode cX11_takes 14 = .ok (.istore 4, 2) := by decide +kernel
theorem dX11_takes_16 : decode cX11_takes 16 = .ok (.iload 4, 2) := by decide +kernel
theorem dX11_takes_18 : decode cX11_takes 18 = .ok (.ifCond .eq 10, 3) := by decide +kernel
theorem dX11_takes_21 : decode cX11_takes 21 = .ok (.aload_n 0, 1) := by decide +kernel
theorem dX11_takes_22 : decode cX11_takes 22 = .ok (.iload 4, 2) := by decide +kernel
theorem dX11_takes_24 : decode cX11_takes 24 = .ok (.invokevirtual 110, 3) := by decide +kernel
theorem dX11_takes_27 : decode cX11_takes 27 = .ok (.ireturn, 1) := by decide +kernel
def ws_c_X11_takes : List Cond := .code yX11_takes cX11_takes 6 (some .int) :: ([.fieldLink "NestedChecker" 26 "NestedChecker" "live" "LNestedChecker$Setting;", .code ⟨"NestedChecker$Setting", "has", "(I)Z"⟩ cX5_has 2 (some .boolean), .fieldLink "NestedChecker$Setting" 38 "NestedChecker$Setting" "automata" "I", .initialized "NestedChecker$Setting", .instanceMethod ⟨"NestedChecker$Setting", "has", "(I)Z"⟩, .selects "NestedChecker$Setting" ⟨"NestedChecker$Setting", "has", "(I)Z"⟩ ⟨"NestedChecker$Setting", "has", "(I)Z"⟩, .methodLink "NestedChecker" 163 ⟨"NestedChecker$Setting", "has", "(I)Z"⟩, .code ⟨"NestedChecker", "wordRefusal", "(ZII)I"⟩ cX11_wordRefusal 7 (some .int), .fieldLink "NestedChecker" 10 "NestedChecker" "trays" "LNestedChecker$Trays;", .code ⟨"NestedChecker$Trays", "has", "(I)Z"⟩ cX9_has 2 (some .boolean), .code ⟨"NestedChecker", "within", "(III)Z"⟩ cX11_within 3 (some .boolean), .initialized "NestedChecker", .static ⟨"NestedChecker", "within", "(III)Z"⟩, .initialized "NestedChecker$Trays", .instanceMethod ⟨"NestedChecker$Trays", "has", "(I)Z"⟩, .selects "NestedChecker$Trays" ⟨"NestedChecker$Trays", "has", "(I)Z"⟩ ⟨"NestedChecker$Trays", "has", "(I)Z"⟩, .methodLink "NestedChecker" 83 ⟨"NestedChecker$Trays", "has", "(I)Z"⟩, .methodLink "NestedChecker" 87 ⟨"NestedChecker", "within", "(III)Z"⟩, .code ⟨"NestedChecker$Trays", "isMissing", "(I)Z"⟩ cX9_isMissing 2 (some .boolean), .fieldLink "NestedChecker$Trays" 19 "NestedChecker$Trays" "places" "[I", .instanceMethod ⟨"NestedChecker$Trays", "isMissing", "(I)Z"⟩, .selects "NestedChecker$Trays" ⟨"NestedChecker$Trays", "isMissing", "(I)Z"⟩ ⟨"NestedChecker$Trays", "isMissing", "(I)Z"⟩, .methodLink "NestedChecker" 351 ⟨"NestedChecker$Trays", "isMissing", "(I)Z"⟩, .instanceMethod ⟨"NestedChecker", "wordRefusal", "(ZII)I"⟩, .selects "NestedChecker" ⟨"NestedChecker", "wordRefusal", "(ZII)I"⟩ ⟨"NestedChecker", "wordRefusal", "(ZII)I"⟩, .methodLink "NestedChecker" 226 ⟨"NestedChecker", "wordRefusal", "(ZII)I"⟩, .code ⟨"NestedChecker", "refuse", "(I)I"⟩ cX11_refuse 2 (some .int), .fieldLink "NestedChecker" 72 "NestedChecker" "lastStatus" "I", .instanceMethod ⟨"NestedChecker", "refuse", "(I)I"⟩, .selects "NestedChecker" ⟨"NestedChecker", "refuse", "(I)I"⟩ ⟨"NestedChecker", "refuse", "(I)I"⟩, .methodLink "NestedChecker" 110 ⟨"NestedChecker", "refuse", "(I)I"⟩] ++ wsX110 ++ wsX50 ++ wsX90)
set_option maxRecDepth 20000 in
theorem g_c_X11_takes_c_X5_has : GoodIn ws_c_X11_takes ws_c_X5_has := goodIn_r _ [2, 3, 47, 48, 49, 50, 51, 52, 53] (by decide +kernel) (by decide +kernel)
set_option maxRecDepth 20000 in
theorem g_c_X11_takes_c_X11_wordRefusal : GoodIn ws_c_X11_takes ws_c_X11_wordRefusal := goodIn_r _ [8, 9, 10, 11, 12, 13, 14, 15, 16, 17, 18, 19, 20, 21, 22, 23, 32, 33, 34, 35, 36, 37, 38, 39, 40, 41, 42, 43, 44, 45, 46, 54, 55, 56] (by decide +kernel) (by decide +kernel)
set_option maxRecDepth 20000 in
theorem g_c_X11_takes_c_X11_refuse : GoodIn ws_c_X11_takes ws_c_X11_refuse := goodIn_r _ [27, 28, 32, 33, 34, 35, 36, 37, 38, 39, 40, 41, 42, 43, 44, 45, 46] (by decide +kernel) (by decide +kernel)
set_option maxHeartbeats 4000000 in
set_option maxRecDepth 100000 in
theorem c_X11_takes (l : Launch) (D : va_G) (k : jK) (h0 : Nat) (a2 : Nat) (a4 : Nat) (a5 : Nat) (a6 : Nat) (a7 : Nat) (a8 : Nat) (a9 : Nat) (a10 : Nat) (t0 : Nat) (s0 : Nat) (t1 : Nat) (t2 : Nat) (t3 : Nat) (fp : Nat → Int32) (s1 : Nat) (s2 : Nat) (s3 : Nat) (i1 : Int32) (i2 : Int32) (i3 : Int32) (sz : Nat) (hp : ∀ j, j < 4 → fp j = -1) : Met l yX11_takes ws_c_X11_takes ({ frames := 3, cells := 0, slots := 0, locals := 69 }) (jy_P [.ref h0, .int i1, .int i2, .int i3] D vwCl (jT k) jW [(h0, .inr (10, [.int 0, .long 0, .long 1, .ref t0, .ref a2, .ref s0, .ref a4, .int 0, .ref a5, .ref a6, .ref a7, .ref a8, .ref a9, .ref a10, .int 0])), (t0, .inr (8, [.ref t1, .ref t2, .ref t3])), (t3, .inl (k.2.1, 4, .inl fp)), (s0, .inr (4, [.int 0, .int 0, .int 0, .int 0, .ref s1, .ref s2, .ref s3]))] sz) (va_Qi (fun (r : Int32) (u : Unit) => r = -1) (jy_B D vwCl (va_A [(h0, .inr (10, [.int 0, .long 0, .long 1, .ref t0, .ref a2, .ref s0, .ref a4, .int 0, .ref a5, .ref a6, .ref a7, .ref a8, .ref a9, .ref a10, .int 0])), (t0, .inr (8, [.ref t1, .ref t2, .ref t3])), (t3, .inl (k.2.1, 4, .inl fp)), (s0, .inr (4, [.int 0, .int 0, .int 0, .int 0, .ref s1, .ref s2, .ref s3]))] sz) (fun (u : Unit) => [])) (va_A [(h0, .inr (10, [.int 0, .long 0, .long 1, .ref t0, .ref a2, .ref s0, .ref a4, .int 0, .ref a5, .ref a6, .ref a7, .ref a8, .ref a9, .ref a10, .int 0])), (t0, .inr (8, [.ref t1, .ref t2, .ref t3])), (t3, .inl (k.2.1, 4, .inl fp)), (s0, .inr (4, [.int 0, .int 0, .int 0, .int 0, .ref s1, .ref s2, .ref s3]))] sz)) 0 0 (va_A [(h0, .inr (10, [.int 0, .long 0, .long 1, .ref t0, .ref a2, .ref s0, .ref a4, .int 0, .ref a5, .ref a6, .ref a7, .ref a8, .ref a9, .ref a10, .int 0])), (t0, .inr (8, [.ref t1, .ref t2, .ref t3])), (t3, .inl (k.2.1, 4, .inl fp)), (s0, .inr (4, [.int 0, .int 0, .int 0, .int 0, .ref s1, .ref s2, .ref s3]))] sz) := by
  refine jy_met (cc := cX11_takes) (maxL := 6) (ret := (some .int)) (lv := [(0, .ref h0), (1, .int i1), (2, .int i2), (3, .int i3)]) (by decide) rfl (Nat.le_of_ble_eq_true rfl) rfl ?_
  intro p e s m below meth c F hr hlk hnm hN hA
  have hiX11 : ∀ w ∈ u_ws RX11 TX11 15, w ∈ ws_c_X11_takes := fun w hw => List.mem_cons_of_mem _ (List.mem_append_left _ (List.mem_append_left _ (List.mem_append_right _ hw)))
  have hiX5 : ∀ w ∈ u_ws RX5 TX5 7, w ∈ ws_c_X11_takes := fun w hw => List.mem_cons_of_mem _ (List.mem_append_left _ (List.mem_append_right _ hw))
  have hiX9 : ∀ w ∈ u_ws RX9 TX9 3, w ∈ ws_c_X11_takes := fun w hw => List.mem_cons_of_mem _ (List.mem_append_right _ hw)
  refine jy_aload_n (pc' := 1) F 0 dX11_takes_0 rfl rfl rfl ?_
  refine jy_aload_n (pc' := 2) F 0 dX11_takes_1 rfl rfl rfl ?_
  refine jy_get (pc' := 5) (C := RX11) (T := TX11) (N := 15) (ci := 10) (v := .ref s0) F hiX11 0 rfl rfl 5 (by decide) dX11_takes_2 (List.mem_of_getElem? (i := 1) rfl) rfl rfl ?_
  refine jy_iload_n (pc' := 6) F 1 dX11_takes_5 rfl rfl rfl ?_
  refine jy_callSi (pc' := 9) (jy_runV (As := [.int i1]) (b := s0) (q0 := 3) (ci := 4) (C := RX5) (T := TX5) (N := 7) (st := [.ref h0]) F hN (fun sz => c_X5_has l D k s0 s1 s2 s3 i1 sz ) (jy_cV F g_c_X11_takes_c_X5_has rfl hdX5_has (List.mem_of_getElem? (i := 4) rfl) (List.mem_of_getElem? (i := 7) rfl) (List.mem_of_getElem? (i := 5) rfl) (List.mem_of_getElem? (i := 6) rfl) rfl rfl ⟨by decide, by decide⟩) rfl rfl [3] rfl (by decide) rfl rfl (Nat.le_of_ble_eq_true rfl) dX11_takes_6 ⟨by decide, by decide⟩) rfl (fun r_1 e_2 => ?_)
  subst e_2
  refine jy_iload_n (pc' := 10) F 2 dX11_takes_9 rfl rfl rfl ?_
  refine jy_iload_n (pc' := 11) F 3 dX11_takes_10 rfl rfl rfl ?_
  refine jy_callSi (pc' := 14) (jy_runV (As := [.int 0, .int i2, .int i3]) (b := h0) (q0 := 0) (ci := 10) (C := RX11) (T := TX11) (N := 15) (st := []) F hN (fun sz => c_X11_wordRefusal l D k h0 a2 a4 a5 a6 a7 a8 a9 a10 t0 s0 t1 t2 t3 fp 0 i2 i3 sz (hp)) (jy_cV F g_c_X11_takes_c_X11_wordRefusal rfl hdX11_wordRefusal (List.mem_of_getElem? (i := 12) rfl) (List.mem_of_getElem? (i := 26) rfl) (List.mem_of_getElem? (i := 24) rfl) (List.mem_of_getElem? (i := 25) rfl) rfl rfl ⟨by decide, by decide⟩) rfl rfl [0, 1, 2] rfl (by decide) rfl rfl (Nat.le_of_ble_eq_true rfl) dX11_takes_11 ⟨by decide, by decide⟩) rfl (fun r_3 e_4 => ?_)
  refine jy_istore (pc' := 16) (lv' := [(4, .int r_3), (0, .ref h0), (1, .int i1), (2, .int i2), (3, .int i3)]) F dX11_takes_14 (by decide) rfl rfl ?_
  refine jy_iload (pc' := 18) F 0 dX11_takes_16 rfl rfl ?_
  refine jy_if_eq (pc' := 21) (tgt := 28) F dX11_takes_18 (by decide) rfl (fun h => absurd h (e_4)) (fun _ => ?_)
  refine jy_aload_n (pc' := 22) F 1 dX11_takes_21 rfl rfl rfl ?_
  refine jy_iload (pc' := 24) F 0 dX11_takes_22 rfl rfl ?_
  refine jy_calli (pc' := 27) (cells' := 0) (slots' := 0) (wr := [(t0, .inr (8, [.ref t1, .ref t2, .ref t3])), (t3, .inl (k.2.1, 4, .inl fp)), (s0, .inr (4, [.int 0, .int 0, .int 0, .int 0, .ref s1, .ref s2, .ref s3]))]) hA [0] [1, 2, 3] rfl rfl (by decide) (by decide) (jy_runV (As := [.int r_3]) (b := h0) (q0 := 0) (ci := 10) (C := RX11) (T := TX11) (N := 15) (st := []) F hN (fun sz => c_X11_refuse l D k h0 0 (.long 0) (.long 1) (.ref t0) (.ref a2) (.ref s0) (.ref a4) (.int 0) (.ref a5) (.ref a6) (.ref a7) (.ref a8) (.ref a9) (.ref a10) (.int 0) r_3 sz ) (jy_cV F g_c_X11_takes_c_X11_refuse rfl hdX11_refuse (List.mem_of_getElem? (i := 12) rfl) (List.mem_of_getElem? (i := 31) rfl) (List.mem_of_getElem? (i := 29) rfl) (List.mem_of_getElem? (i := 30) rfl) rfl rfl ⟨by decide, by decide⟩) rfl rfl [0] rfl (by decide) rfl rfl (Nat.le_of_ble_eq_true rfl) dX11_takes_24 ⟨by decide, by decide⟩) rfl rfl rfl (fun r_8 u_6 e_7 => ?_)
  subst e_7
  refine jy_widen (cells' := 0) (slots' := 0) (by decide) (by decide) ?_
  exact jy_iret (v := (-1)) F hr hlk () (rfl) [] rfl (by decide) dX11_takes_27
