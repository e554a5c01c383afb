abbrev cX11_ends : ByteArray := prog_1_method_21_code
def yX11_ends : MethodName := ⟨RX11, "ends", "(III)I"⟩
theorem hdX11_ends : yX11_ends.cls ≠ "java/lang/invoke/MethodHandle" ∧ yX11_ends.cls ≠ "java/lang/invoke/VarHandle" ∧ (parseMethodDescriptor yX11_ends.desc).map (fun d => d.parameters.length) = some 3 := by decide +kernel
theorem dX11_ends_0 : decode cX11_ends 0 = .ok (.aload_n 0, 1) := by decide +kernel
theorem dX11_ends_1 : decode cX11_ends 1 = .ok (.aload_n 0, 1) := by decide +kernel
theorem dX11_ends_2 : decode cX11_ends 2 = .ok (.getfield 26, 3) := by decide +kernel
theorem dX11_ends_5 : decode cX11_ends 5 = .ok (.iload_n 1, 1) := by decide +kernel
theorem dX11_ends_6 : decode cX11_ends 6 = .ok (.invokevirtual 163, 3) := by decide +kernel
theorem dX11_ends_9 : decode cX11_ends 9 = .ok (.iload_n 2, 1) := by decide +kernel
theorem dX11_ends_10 : decode cX11_ends 10 = .ok (.iload_n 3, 1) := by decide +kernel
theorem dX11_ends_11 : decode cX11_ends 11 = .ok (.invokevirtual 226, 3) := by decide +kernel
theorem dX11_ends_14 : decode cX11_ends 14 = .ok (.istore 4, 2) := by decide +kernel
theorem dX11_ends_16 : decode cX11_ends 16 = .ok (.iload 4, 2) := by decide +kernel
theorem dX11_ends_18 : decode cX11_ends 18 = .ok (.ifCond .eq 10, 3) := by decide +kernel
theorem dX11_ends_21 : decode cX11_ends 21 = .ok (.aload_n 0, 1) := by decide +kernel
theorem dX11_ends_22 : decode cX11_ends 22 = .ok (.iload 4, 2) := by decide +kernel
theorem dX11_ends_24 : decode cX11_ends 24 = .ok (.invokevirtual 110, 3) := by decide +kernel
theorem dX11_ends_27 : decode cX11_ends 27 = .ok (.ireturn, 1) := by decide +kernel
def ws_c_X11_ends : List Cond := .code yX11_ends cX11_ends 5 (some .int) :: ([.fieldLink "NestedChecker" 26 "NestedChecker" "live" "LNestedChecker$Setting;", .code ⟨"NestedChecker$Setting", "has", "(I)Z"⟩ cX5_has 2 (some .boolean), .fieldLink "NestedChecker$Setting" 38 "NestedChecker$Setting" "automata" "I", .initialized "NestedChecker$Setting", .instanceMethod ⟨"NestedChecker$Setting", "has", "(I)Z"⟩, .selects "NestedChecker$Setting" ⟨"NestedChecker$Setting", "has", "(I)Z"⟩ ⟨"NestedChecker$Setting", "has", "(I)Z"⟩, .methodLink "NestedChecker" 163 ⟨"NestedChecker$Setting", "has", "(I)Z"⟩, .code ⟨"NestedChecker", "wordRefusal", "(ZII)I"⟩ cX11_wordRefusal 7 (some .int), .fieldLink "NestedChecker" 10 "NestedChecker" "trays" "LNestedChecker$Trays;", .code ⟨"NestedChecker$Trays", "has", "(I)Z"⟩ cX9_has 2 (some .boolean), .code ⟨"NestedChecker", "within", "(III)Z"⟩ cX11_within 3 (some .boolean), .initialized "NestedChecker", .static ⟨"NestedChecker", "within", "(III)Z"⟩, .initialized "NestedChecker$Trays", .instanceMethod ⟨"NestedChecker$Trays", "has", "(I)Z"⟩, .selects "NestedChecker$Trays" ⟨"NestedChecker$Trays", "has", "(I)Z"⟩ ⟨"NestedChecker$Trays", "has", "(I)Z"⟩, .methodLink "NestedChecker" 83 ⟨"NestedChecker$Trays", "has", "(I)Z"⟩, .methodLink "NestedChecker" 87 ⟨"NestedChecker", "within", "(III)Z"⟩, .code ⟨"NestedChecker$Trays", "isMissing", "(I)Z"⟩ cX9_isMissing 2 (some .boolean), .fieldLink "NestedChecker$Trays" 19 "NestedChecker$Trays" "places" "[I", .instanceMethod ⟨"NestedChecker$Trays", "isMissing", "(I)Z"⟩, .selects "NestedChecker$Trays" ⟨"NestedChecker$Trays", "isMissing", "(I)Z"⟩ ⟨"NestedChecker$Trays", "isMissing", "(I)Z"⟩, .methodLink "NestedChecker" 351 ⟨"NestedChecker$Trays", "isMissing", "(I)Z"⟩, .instanceMethod ⟨"NestedChecker", "wordRefusal", "(ZII)I"⟩, .selects "NestedChecker" ⟨"NestedChecker", "wordRefusal", "(ZII)I"⟩ ⟨"NestedChecker", "wordRefusal", "(ZII)I"⟩, .methodLink "NestedChecker" 226 ⟨"NestedChecker", "wordRefusal", "(ZII)I"⟩, .code ⟨"NestedChecker", "refuse", "(I)I"⟩ cX11_refuse 2 (some .int), .fieldLink "NestedChecker" 72 "NestedChecker" "lastStatus" "I", .instanceMethod ⟨"NestedChecker", "refuse", "(I)I"⟩, .selects "NestedChecker" ⟨"NestedChecker", "refuse", "(I)I"⟩ ⟨"NestedChecker", "refuse", "(I)I"⟩, .methodLink "NestedChecker" 110 ⟨"NestedChecker", "refuse", "(I)I"⟩] ++ wsX110 ++ wsX50 ++ wsX90)
set_option maxRecDepth 20000 in
theorem g_c_X11_ends_c_X5_has : GoodIn ws_c_X11_ends ws_c_X5_has := goodIn_r _ [2, 3, 47, 48, 49, 50, 51, 52, 53] (by decide +kernel) (by decide +kernel)
set_option maxRecDepth 20000 in
theorem g_c_X11_ends_c_X11_wordRefusal : GoodIn ws_c_X11_ends ws_c_X11_wordRefusal := goodIn_r _ [8, 9, 10, 11, 12, 13, 14, 15, 16, 17, 18, 19, 20, 21, 22, 23, 32, 33, 34, 35, 36, 37, 38, 39, 40, 41, 42, 43, 44, 45, 46, 54, 55, 56] (by decide +kernel) (by decide +kernel)
set_option maxRecDepth 20000 in
theorem g_c_X11_ends_c_X11_refuse : GoodIn ws_c_X11_ends ws_c_X11_refuse := goodIn_r _ [27, 28, 32, 33, 34, 35, 36, 37, 38, 39, 40, 41, 42, 43, 44, 45, 46] (by decide +kernel) (by decide +kernel)
set_option maxHeartbeats 4000000 in
set_option maxRecDepth 100000 in
theorem c_X11_ends (l : Launch) (D : va_G) (k : jK) (h0 : Nat) (a2 : Nat) (a4 : Nat) (a5 : Nat) (a6 : Nat) (a7 : Nat) (a8 : Nat) (a9 : Nat) (a10 : Nat) (t0 : Nat) (s0 : Nat) (t1 : Nat) (t2 : Nat) (t3 : Nat) (fp : Nat → Int32) (s1 : Nat) (s2 : Nat) (s3 : Nat) (i1 : Int32) (i2 : Int32) (i3 : Int32) (sz : Nat) (hp : ∀ j, j < 4 → fp j = -1) : Met l yX11_ends ws_c_X11_ends ({ frames := 3, cells := 0, slots := 0, locals := 69 }) (jy_P [.ref h0, .int i1, .int i2, .int i3] D vwCl (jT k) jW [(h0, .inr (10, [.int 0, .long 0, .long 1, .ref t0, .ref a2, .ref s0, .ref a4, .int 0, .ref a5, .ref a6, .ref a7, .ref a8, .ref a9, .ref a10, .int 0])), (t0, .inr (8, [.ref t1, .ref t2, .ref t3])), (t3, .inl (k.2.1, 4, .inl fp)), (s0, .inr (4, [.int 0, .int 0, .int 0, .int 0, .ref s1, .ref s2, .ref s3]))] sz) (va_Qi (fun (r : Int32) (u : Unit) => r = -1) (jy_B D vwCl (va_A [(h0, .inr (10, [.int 0, .long 0, .long 1, .ref t0, .ref a2, .ref s0, .ref a4, .int 0, .ref a5, .ref a6, .ref a7, .ref a8, .ref a9, .ref a10, .int 0])), (t0, .inr (8, [.ref t1, .ref t2, .ref t3])), (t3, .inl (k.2.1, 4, .inl fp)), (s0, .inr (4, [.int 0, .int 0, .int 0, .int 0, .ref s1, .ref s2, .ref s3]))] sz) (fun (u : Unit) => [])) (va_A [(h0, .inr (10, [.int 0, .long 0, .long 1, .ref t0, .ref a2, .ref s0, .ref a4, .int 0, .ref a5, .ref a6, .ref a7, .ref a8, .ref a9, .ref a10, .int 0])), (t0, .inr (8, [.ref t1, .ref t2, .ref t3])), (t3, .inl (k.2.1, 4, .inl fp)), (s0, .inr (4, [.int 0, .int 0, .int 0, .int 0, .ref s1, .ref s2, .ref s3]))] sz)) 0 0 (va_A [(h0, .inr (10, [.int 0, .long 0, .long 1, .ref t0, .ref a2, .ref s0, .ref a4, .int 0, .ref a5, .ref a6, .ref a7, .ref a8, .ref a9, .ref a10, .int 0])), (t0, .inr (8, [.ref t1, .ref t2, .ref t3])), (t3, .inl (k.2.1, 4, .inl fp)), (s0, .inr (4, [.int 0, .int 0, .int 0, .int 0, .ref s1, .ref s2, .ref s3]))] sz) := by
  refine jy_met (cc := cX11_ends) (maxL := 5) (ret := (some .int)) (lv := [(0, .ref h0), (1, .int i1), (2, .int i2), (3, .int i3)]) (by decide) rfl (Nat.le_of_ble_eq_true rfl) rfl ?_
  intro p e s m below meth c F hr hlk hnm hN hA
  have hiX11 : ∀ w ∈ u_ws RX11 TX11 15, w ∈ ws_c_X11_ends := fun w hw => List.mem_cons_of_mem _ (List.mem_append_left _ (List.mem_append_left _ (List.mem_append_right _ hw)))
  have hiX5 : ∀ w ∈ u_ws RX5 TX5 7, w ∈ ws_c_X11_ends := fun w hw => List.mem_cons_of_mem _ (List.mem_append_left _ (List.mem_append_right _ hw))
  have hiX9 : ∀ w ∈ u_ws RX9 TX9 3, w ∈ ws_c_X11_ends := fun w hw => List.mem_cons_of_mem _ (List.mem_append_right _ hw)
  refine jy_aload_n (pc' := 1) F 0 dX11_ends_0 rfl rfl rfl ?_
  refine jy_aload_n (pc' := 2) F 0 dX11_ends_1 rfl rfl rfl ?_
  refine jy_get (pc' := 5) (C := RX11) (T := TX11) (N := 15) (ci := 10) (v := .ref s0) F hiX11 0 rfl rfl 5 (by decide) dX11_ends_2 (List.mem_of_getElem? (i := 1) rfl) rfl rfl ?_
  refine jy_iload_n (pc' := 6) F 1 dX11_ends_5 rfl rfl rfl ?_
  refine jy_callSi (pc' := 9) (jy_runV (As := [.int i1]) (b := s0) (q0 := 3) (ci := 4) (C := RX5) (T := TX5) (N := 7) (st := [.ref h0]) F hN (fun sz => c_X5_has l D k s0 s1 s2 s3 i1 sz ) (jy_cV F g_c_X11_ends_c_X5_has rfl hdX5_has (List.mem_of_getElem? (i := 4) rfl) (List.mem_of_getElem? (i := 7) rfl) (List.mem_of_getElem? (i := 5) rfl) (List.mem_of_getElem? (i := 6) rfl) rfl rfl ⟨by decide, by decide⟩) rfl rfl [3] rfl (by decide) rfl rfl (Nat.le_of_ble_eq_true rfl) dX11_ends_6 ⟨by decide, by decide⟩) rfl (fun r_1 e_2 => ?_)
  subst e_2
  refine jy_iload_n (pc' := 10) F 2 dX11_ends_9 rfl rfl rfl ?_
  refine jy_iload_n (pc' := 11) F 3 dX11_ends_10 rfl rfl rfl ?_
  refine jy_callSi (pc' := 14) (jy_runV (As := [.int 0, .int i2, .int i3]) (b := h0) (q0 := 0) (ci := 10) (C := RX11) (T := TX11) (N := 15) (st := []) F hN (fun sz => c_X11_wordRefusal l D k h0 a2 a4 a5 a6 a7 a8 a9 a10 t0 s0 t1 t2 t3 fp 0 i2 i3 sz (hp)) (jy_cV F g_c_X11_ends_c_X11_wordRefusal rfl hdX11_wordRefusal (List.mem_of_getElem? (i := 12) rfl) (List.mem_of_getElem? (i := 26) rfl) (List.mem_of_getElem? (i := 24) rfl) (List.mem_of_getElem? (i := 25) rfl) rfl rfl ⟨by decide, by decide⟩) rfl rfl [0, 1, 2] rfl (by decide) rfl rfl (Nat.le_of_ble_eq_true rfl) dX11_ends_11 ⟨by decide, by decide⟩) rfl (fun r_3 e_4 => ?_)
  refine jy_istore (pc' := 16) (lv' := [(4, .int r_3), (0, .ref h0), (1, .int i1), (2, .int i2), (3, .int i3)]) F dX11_ends_14 (by decide) rfl rfl ?_
  refine jy_iload (pc' := 18) F 0 dX11_ends_16 rfl rfl ?_
  refine jy_if_eq (pc' := 21) (tgt := 28) F dX11_ends_18 (by decide) rfl (fun h => absurd h (e_4)) (fun _ => ?_)
  refine jy_aload_n (pc' := 22) F 1 dX11_ends_21 rfl rfl rfl ?_
  refine jy_iload (pc' := 24) F 0 dX11_ends_22 rfl rfl ?_
  refine jy_calli (pc' := 27) (cells' := 0) (slots' := 0) (wr := [(t0, .inr (8, [.ref t1, .ref t2, .ref t3])), (t3, .inl (k.2.1, 4, .inl fp)), (s0, .inr (4, [.int 0, .int 0, .int 0, .int 0, .ref s1, .ref s2, .ref s3]))]) hA [0] [1, 2, 3] rfl rfl (by decide) (by decide) (jy_runV (As := [.int r_3]) (b := h0) (q0 := 0) (ci := 10) (C := RX11) (T := TX11) (N := 15) (st := []) F hN (fun sz => c_X11_refuse l D k h0 0 (.long 0) (.long 1) (.ref t0) (.ref a2) (.ref s0) (.ref a4) (.int 0) (.ref a5) (.ref a6) (.ref a7) (.ref a8) (.ref a9) (.ref a10) (.int 0) r_3 sz ) (jy_cV F g_c_X11_ends_c_X11_refuse rfl hdX11_refuse (List.mem_of_getElem? (i := 12) rfl) (List.mem_of_getElem? (i := 31) rfl) (List.mem_of_getElem? (i := 29) rfl) (List.mem_of_getElem? (i := 30) rfl) rfl rfl ⟨by decide, by decide⟩) rfl rfl [0] rfl (by decide) rfl rfl (Nat.le_of_ble_eq_true rfl) dX11_ends_24 ⟨by decide, by decide⟩) rfl rfl rfl (fun r_8 u_6 e_7 => ?_)
  subst e_7
  refine jy_widen (cells' := 0) (slots' := 0) (by decide) (by decide) ?_
  exact jy_iret (v := (-1)) F hr hlk () (rfl) [] rfl (by decide) dX11_ends_27
abbrev cX11_runs : ByteArray := prog_1_method_22_code
def yX11_runs : MethodName := ⟨RX11, "runs", "(III)Z"⟩
theorem hdX11_runs : yX11_runs.cls ≠ "java/lang/invoke/MethodHandle" ∧ yX11_runs.cls ≠ "java/lang/invoke/VarHandle" ∧ (parseMethodDescriptor yX11_runs.desc).map (fun d => d.parameters.length) = some 3 := by decide +kernel
theorem dX11_runs_0 : decode cX11_runs 0 = .ok (.aload_n 0, 1) := by decide +kernel
theorem dX11_runs_1 : decode cX11_runs 1 = .ok (.aload_n 0, 1) := by decide +kernel
theorem dX11_runs_2 : decode cX11_runs 2 = .ok (.getfield 26, 3) := by decide +kernel
theorem dX11_runs_5 : decode cX11_runs 5 = .ok (.iload_n 1, 1) := by decide +kernel
theorem dX11_runs_6 : decode cX11_runs 6 = .ok (.invokevirtual 163, 3) := by decide +kernel
theorem dX11_runs_9 : decode cX11_runs 9 = .ok (.iload_n 2, 1) := by decide +kernel
theorem dX11_runs_10 : decode cX11_runs 10 = .ok (.iload_n 3, 1) := by decide +kernel
theorem dX11_runs_11 : decode cX11_runs 11 = .ok (.invokevirtual 226, 3) := by decide +kernel
theorem dX11_runs_14 : decode cX11_runs 14 = .ok (.istore 4, 2) := by decide +kernel
theorem dX11_runs_16 : decode cX11_runs 16 = .ok (.iload 4, 2) := by decide +kernel
theorem dX11_runs_18 : decode cX11_runs 18 = .ok (.ifCond .eq 10, 3) := by decide +kernel
theorem dX11_runs_21 : decode cX11_runs 21 = .ok (.aload_n 0, 1) := by decide +kernel
theorem dX11_runs_22 : decode cX11_runs 22 = .ok (.iload 4, 2) := by decide +kernel
theorem dX11_runs_24 : decode cX11_runs 24 = .ok (.invokevirtual 91, 3) := by decide +kernel
theorem dX11_runs_27 : decode cX11_runs 27 = .ok (.ireturn, 1) := by decide +kernel
def ws_c_X11_runs : List Cond := .code yX11_runs cX11_runs 8 (some .boolean) :: ([.fieldLink "NestedChecker" 26 "NestedChecker" "live" "LNestedChecker$Setting;", .code ⟨"NestedChecker$Setting", "has", "(I)Z"⟩ cX5_has 2 (some .boolean), .fieldLink "NestedChecker$Setting" 38 "NestedChecker$Setting" "automata" "I", .initialized "NestedChecker$Setting", .instanceMethod ⟨"NestedChecker$Setting", "has", "(I)Z"⟩, .selects "NestedChecker$Setting" ⟨"NestedChecker$Setting", "has", "(I)Z"⟩ ⟨"NestedChecker$Setting", "has", "(I)Z"⟩, .methodLink "NestedChecker" 163 ⟨"NestedChecker$Setting", "has", "(I)Z"⟩, .code ⟨"NestedChecker", "wordRefusal", "(ZII)I"⟩ cX11_wordRefusal 7 (some .int), .fieldLink "NestedChecker" 10 "NestedChecker" "trays" "LNestedChecker$Trays;", .code ⟨"NestedChecker$Trays", "has", "(I)Z"⟩ cX9_has 2 (some .boolean), .code ⟨"NestedChecker", "within", "(III)Z"⟩ cX11_within 3 (some .boolean), .initialized "NestedChecker", .static ⟨"NestedChecker", "within", "(III)Z"⟩, .initialized "NestedChecker$Trays", .instanceMethod ⟨"NestedChecker$Trays", "has", "(I)Z"⟩, .selects "NestedChecker$Trays" ⟨"NestedChecker$Trays", "has", "(I)Z"⟩ ⟨"NestedChecker$Trays", "has", "(I)Z"⟩, .methodLink "NestedChecker" 83 ⟨"NestedChecker$Trays", "has", "(I)Z"⟩, .methodLink "NestedChecker" 87 ⟨"NestedChecker", "within", "(III)Z"⟩, .code ⟨"NestedChecker$Trays", "isMissing", "(I)Z"⟩ cX9_isMissing 2 (some .boolean), .fieldLink "NestedChecker$Trays" 19 "NestedChecker$Trays" "places" "[I", .instanceMethod ⟨"NestedChecker$Trays", "isMissing", "(I)Z"⟩, .selects "NestedChecker$Trays" ⟨"NestedChecker$Trays", "isMissing", "(I)Z"⟩ ⟨"NestedChecker$Trays", "isMissing", "(I)Z"⟩, .methodLink "NestedChecker" 351 ⟨"NestedChecker$Trays", "isMissing", "(I)Z"⟩, .instanceMethod ⟨"NestedChecker", "wordRefusal", "(ZII)I"⟩, .selects "NestedChecker" ⟨"NestedChecker", "wordRefusal", "(ZII)I"⟩ ⟨"NestedChecker", "wordRefusal", "(ZII)I"⟩, .methodLink "NestedChecker" 226 ⟨"NestedChecker", "wordRefusal", "(ZII)I"⟩, .code ⟨"NestedChecker", "deny", "(I)Z"⟩ cX11_deny 2 (some .boolean), .fieldLink "NestedChecker" 72 "NestedChecker" "lastStatus" "I", .instanceMethod ⟨"NestedChecker", "deny", "(I)Z"⟩, .selects "NestedChecker" ⟨"NestedChecker", "deny", "(I)Z"⟩ ⟨"NestedChecker", "deny", "(I)Z"⟩, .methodLink "NestedChecker" 91 ⟨"NestedChecker", "deny", "(I)Z"⟩] ++ wsX110 ++ wsX50 ++ wsX90)
set_option maxRecDepth 20000 in
theorem g_c_X11_runs_c_X5_has : GoodIn ws_c_X11_runs ws_c_X5_has := goodIn_r _ [2, 3, 47, 48, 49, 50, 51, 52, 53] (by decide +kernel) (by decide +kernel)
set_option maxRecDepth 20000 in
theorem g_c_X11_runs_c_X11_wordRefusal : GoodIn ws_c_X11_runs ws_c_X11_wordRefusal := goodIn_r _ [8, 9, 10, 11, 12, 13, 14, 15, 16, 17, 18, 19, 20, 21, 22, 23, 32, 33, 34, 35, 36, 37, 38, 39, 40, 41, 42, 43, 44, 45, 46, 54, 55, 56] (by decide +kernel) (by decide +kernel)
set_option maxRecDepth 20000 in
theorem g_c_X11_runs_c_X11_deny : GoodIn ws_c_X11_runs ws_c_X11_deny := goodIn_r _ [27, 28, 32, 33, 34, 35, 36, 37, 38, 39, 40, 41, 42, 43, 44, 45, 46] (by decide +kernel) (by decide +kernel)
set_option maxHeartbeats 4000000 in
set_option maxRecDepth 100000 in
theorem c_X11_runs (l : Launch) (D : va_G) (k : jK) (h0 : Nat) (a2 : Nat) (a4 : Nat) (a5 : Nat) (a6 : Nat) (a7 : Nat) (a8 : Nat) (a9 : Nat) (a10 : Nat) (t0 : Nat) (s0 : Nat) (t1 : Nat) (t2 : Nat) (t3 : Nat) (fp : Nat → Int32) (s1 : Nat) (s2 : Nat) (s3 : Nat) (i1 : Int32) (i2 : Int32) (i3 : Int32) (sz : Nat) (hp : ∀ j, j < 4 → fp j = -1) : Met l yX11_runs ws_c_X11_runs ({ frames := 3, cells := 0, slots := 0, locals := 69 }) (jy_P [.ref h0, .int i1, .int i2, .int i3] D vwCl (jT k) jW [(h0, .inr (10, [.int 0, .long 0, .long 1, .ref t0, .ref a2, .ref s0, .ref a4, .int 0, .ref a5, .ref a6, .ref a7, .ref a8, .ref a9, .ref a10, .int 0])), (t0, .inr (8, [.ref t1, .ref t2, .ref t3])), (t3, .inl (k.2.1, 4, .inl fp)), (s0, .inr (4, [.int 0, .int 0, .int 0, .int 0, .ref s1, .ref s2, .ref s3]))] sz) (va_Qi (fun (r : Int32) (u : Unit) => r = 0) (jy_B D vwCl (va_A [(h0, .inr (10, [.int 0, .long 0, .long 1, .ref t0, .ref a2, .ref s0, .ref a4, .int 0, .ref a5, .ref a6, .ref a7, .ref a8, .ref a9, .ref a10, .int 0])), (t0, .inr (8, [.ref t1, .ref t2, .ref t3])), (t3, .inl (k.2.1, 4, .inl fp)), (s0, .inr (4, [.int 0, .int 0, .int 0, .int 0, .ref s1, .ref s2, .ref s3]))] sz) (fun (u : Unit) => [])) (va_A [(h0, .inr (10, [.int 0, .long 0, .long 1, .ref t0, .ref a2, .ref s0, .ref a4, .int 0, .ref a5, .ref a6, .ref a7, .ref a8, .ref a9, .ref a10, .int 0])), (t0, .inr (8, [.ref t1, .ref t2, .ref t3])), (t3, .inl (k.2.1, 4, .inl fp)), (s0, .inr (4, [.int 0, .int 0, .int 0, .int 0, .ref s1, .ref s2, .ref s3]))] sz)) 0 0 (va_A [(h0, .inr (10, [.int 0, .long 0, .long 1, .ref t0, .ref a2, .ref s0, .ref a4, .int 0, .ref a5, .ref a6, .ref a7, .ref a8, .ref a9, .ref a10, .int 0])), (t0, .inr (8, [.ref t1, .ref t2, .ref t3])), (t3, .inl (k.2.1, 4, .inl fp)), (s0, .inr (4, [.int 0, .int 0, .int 0, .int 0, .ref s1, .ref s2, .ref s3]))] sz) := by
  refine jy_met (cc := cX11_runs) (maxL := 8) (ret := (some .boolean)) (lv := [(0, .ref h0), (1, .int i1), (2, .int i2), (3, .int i3)]) (by decide) rfl (Nat.le_of_ble_eq_true rfl) rfl ?_
  intro p e s m below meth c F hr hlk hnm hN hA
  have hiX11 : ∀ w ∈ u_ws RX11 TX11 15, w ∈ ws_c_X11_runs := fun w hw => List.mem_cons_of_mem _ (List.mem_append_left _ (List.mem_append_left _ (List.mem_append_right _ hw)))
  have hiX5 : ∀ w ∈ u_ws RX5 TX5 7, w ∈ ws_c_X11_runs := fun w hw => List.mem_cons_of_mem _ (List.mem_append_left _ (List.mem_append_right _ hw))
  have hiX9 : ∀ w ∈ u_ws RX9 TX9 3, w ∈ ws_c_X11_runs := fun w hw => List.mem_cons_of_mem _ (List.mem_append_right _ hw)
  refine jy_aload_n (pc' := 1) F 0 dX11_runs_0 rfl rfl rfl ?_
  refine jy_aload_n (pc' := 2) F 0 dX11_runs_1 rfl rfl rfl ?_
  refine jy_get (pc' := 5) (C := RX11) (T := TX11) (N := 15) (ci := 10) (v := .ref s0) F hiX11 0 rfl rfl 5 (by decide) dX11_runs_2 (List.mem_of_getElem? (i := 1) rfl) rfl rfl ?_
  refine jy_iload_n (pc' := 6) F 1 dX11_runs_5 rfl rfl rfl ?_
  refine jy_callSi (pc' := 9) (jy_runV (As := [.int i1]) (b := s0) (q0 := 3) (ci := 4) (C := RX5) (T := TX5) (N := 7) (st := [.ref h0]) F hN (fun sz => c_X5_has l D k s0 s1 s2 s3 i1 sz ) (jy_cV F g_c_X11_runs_c_X5_has rfl hdX5_has (List.mem_of_getElem? (i := 4) rfl) (List.mem_of_getElem? (i := 7) rfl) (List.mem_of_getElem? (i := 5) rfl) (List.mem_of_getElem? (i := 6) rfl) rfl rfl ⟨by decide, by decide⟩) rfl rfl [3] rfl (by decide) rfl rfl (Nat.le_of_ble_eq_true rfl) dX11_runs_6 ⟨by decide, by decide⟩) rfl (fun r_1 e_2 => ?_)
  subst e_2
  refine jy_iload_n (pc' := 10) F 2 dX11_runs_9 rfl rfl rfl ?_
  refine jy_iload_n (pc' := 11) F 3 dX11_runs_10 rfl rfl rfl ?_
  refine jy_callSi (pc' := 14) (jy_runV (As := [.int 0, .int i2, .int i3]) (b := h0) (q0 := 0) (ci := 10) (C := RX11) (T := TX11) (N := 15) (st := []) F hN (fun sz => c_X11_wordRefusal l D k h0 a2 a4 a5 a6 a7 a8 a9 a10 t0 s0 t1 t2 t3 fp 0 i2 i3 sz (hp)) (jy_cV F g_c_X11_runs_c_X11_wordRefusal rfl hdX11_wordRefusal (List.mem_of_getElem? (i := 12) rfl) (List.mem_of_getElem? (i := 26) rfl) (List.mem_of_getElem? (i := 24) rfl) (List.mem_of_getElem? (i := 25) rfl) rfl rfl ⟨by decide, by decide⟩) rfl rfl [0, 1, 2] rfl (by decide) rfl rfl (Nat.le_of_ble_eq_true rfl) dX11_runs_11 ⟨by decide, by decide⟩) rfl (fun r_3 e_4 => ?_)
  refine jy_istore (pc' := 16) (lv' := [(4, .int r_3), (0, .ref h0), (1, .int i1), (2, .int i2), (3, .int i3)]) F dX11_runs_14 (by decide) rfl rfl ?_
  refine jy_iload (pc' := 18) F 0 dX11_runs_16 rfl rfl ?_
  refine jy_if_eq (pc' := 21) (tgt := 28) F dX11_runs_18 (by decide) rfl (fun h => absurd h (e_4)) (fun _ => ?_)
  refine jy_aload_n (pc' := 22) F 1 dX11_runs_21 rfl rfl rfl ?_
  refine jy_iload (pc' := 24) F 0 dX11_runs_22 rfl rfl ?_
  refine jy_calli (pc' := 27) (cells' := 0) (slots' := 0) (wr := [(t0, .inr (8, [.ref t1, .ref t2, .ref t3])), (t3, .inl (k.2.1, 4, .inl fp)), (s0, .inr (4, [.int 0, .int 0, .int 0, .int 0, .ref s1, .ref s2, .ref s3]))]) hA [0] [1, 2, 3] rfl rfl (by decide) (by decide) (jy_runV (As := [.int r_3]) (b := h0) (q0 := 0) (ci := 10) (C := RX11) (T := TX11) (N := 15) (st := []) F hN (fun sz => c_X11_deny l D k h0 0 (.long 0) (.long 1) (.ref t0) (.ref a2) (.ref s0) (.ref a4) (.int 0) (.ref a5) (.ref a6) (.ref a7) (.ref a8) (.ref a9) (.ref a10) (.int 0) r_3 sz ) (jy_cV F g_c_X11_runs_c_X11_deny rfl hdX11_deny (List.mem_of_getElem? (i := 12) rfl) (List.mem_of_getElem? (i := 31) rfl) (List.mem_of_getElem? (i := 29) rfl) (List.mem_of_getElem? (i := 30) rfl) rfl rfl ⟨by decide, by decide⟩) rfl rfl [0] rfl (by decide) rfl rfl (Nat.le_of_ble_eq_true rfl) dX11_runs_24 ⟨by decide, by decide⟩) rfl rfl rfl (fun r_8 u_6 e_7 => ?_)
  subst e_7
  refine jy_widen (cells' := 0) (slots' := 0) (by decide) (by decide) ?_
  exact jy_zret (v := 0) F hr hlk (by first | rfl | decide) () (rfl) [] rfl (by decide) dX11_runs_27
abbrev cX11_depth : ByteArray := prog_1_method_23_code
def yX11_depth : MethodName := ⟨RX11, "depth", "(III)I"⟩
theorem hdX11_depth : yX11_depth.cls ≠ "java/lang/invoke/MethodHandle" ∧ yX11_depth.cls ≠ "java/lang/invoke/VarHandle" ∧ (parseMethodDescriptor yX11_depth.desc).map (fun d => d.parameters.length) = some 3 := by decide +kernel
theorem dX11_depth_0 : decode cX11_depth 0 = .ok (.aload_n 0, 1) := by decide +kernel
theorem dX11_depth_1 : decode cX11_depth 1 = .ok (.iload_n 3, 1) := by decide +kernel
theorem dX11_depth_2 : decode cX11_depth 2 = .ok (.iconst 0, 1) := by decide +kernel
theorem dX11_depth_3 : decode cX11_depth 3 = .ok (.iconst 2, 1) := by decide +kernel
theorem dX11_depth_4 : decode cX11_depth 4 = .ok (.invokestatic 87, 3) := by decide +kernel
theorem dX11_depth_7 : decode cX11_depth 7 = .ok (.iload_n 1, 1) := by decide +kernel
theorem dX11_depth_8 : decode cX11_depth 8 = .ok (.iload_n 2, 1) := by decide +kernel
theorem dX11_depth_9 : decode cX11_depth 9 = .ok (.invokevirtual 226, 3) := by decide +kernel
theorem dX11_depth_12 : decode cX11_depth 12 = .ok (.istore 4, 2) := by decide +kernel
theorem dX11_depth_14 : decode cX11_depth 14 = .ok (.iload 4, 2) := by decide +kernel
theorem dX11_depth_16 : decode cX11_depth 16 = .ok (.ifCond .eq 10, 3) := by decide +kernel
theorem dX11_depth_19 : decode cX11_depth 19 = .ok (.aload_n 0, 1) := by decide +kernel
theorem dX11_depth_20 : decode cX11_depth 20 = .ok (.iload 4, 2) := by decide +kernel
theorem dX11_depth_22 : decode cX11_depth 22 = .ok (.invokevirtual 110, 3) := by decide +kernel
theorem dX11_depth_25 : decode cX11_depth 25 = .ok (.ireturn, 1) := by decide +kernel
def ws_c_X11_depth : List Cond := .code yX11_depth cX11_depth 10 (some .int) :: ([.code ⟨"NestedChecker", "within", "(III)Z"⟩ cX11_within 3 (some .boolean), .initialized "NestedChecker", .static ⟨"NestedChecker", "within", "(III)Z"⟩, .methodLink "NestedChecker" 87 ⟨"NestedChecker", "within", "(III)Z"⟩, .code ⟨"NestedChecker", "wordRefusal", "(ZII)I"⟩ cX11_wordRefusal 7 (some .int), .fieldLink "NestedChecker" 10 "NestedChecker" "trays" "LNestedChecker$Trays;", .code ⟨"NestedChecker$Trays", "has", "(I)Z"⟩ cX9_has 2 (some .boolean), .initialized "NestedChecker$Trays", .instanceMethod ⟨"NestedChecker$Trays", "has", "(I)Z"⟩, .selects "NestedChecker$Trays" ⟨"NestedChecker$Trays", "has", "(I)Z"⟩ ⟨"NestedChecker$Trays", "has", "(I)Z"⟩, .methodLink "NestedChecker" 83 ⟨"NestedChecker$Trays", "has", "(I)Z"⟩, .code ⟨"NestedChecker$Trays", "isMissing", "(I)Z"⟩ cX9_isMissing 2 (some .boolean), .fieldLink "NestedChecker$Trays" 19 "NestedChecker$Trays" "places" "[I", .instanceMethod ⟨"NestedChecker$Trays", "isMissing", "(I)Z"⟩, .selects "NestedChecker$Trays" ⟨"NestedChecker$Trays", "isMissing", "(I)Z"⟩ ⟨"NestedChecker$Trays", "isMissing", "(I)Z"⟩, .methodLink "NestedChecker" 351 ⟨"NestedChecker$Trays", "isMissing", "(I)Z"⟩, .instanceMethod ⟨"NestedChecker", "wordRefusal", "(ZII)I"⟩, .selects "NestedChecker" ⟨"NestedChecker", "wordRefusal", "(ZII)I"⟩ ⟨"NestedChecker", "wordRefusal", "(ZII)I"⟩, .methodLink "NestedChecker" 226 ⟨"NestedChecker", "wordRefusal", "(ZII)I"⟩, .code ⟨"NestedChecker", "refuse", "(I)I"⟩ cX11_refuse 2 (some .int), .fieldLink "NestedChecker" 72 "NestedChecker" "lastStatus" "I", .instanceMethod ⟨"NestedChecker", "refuse", "(I)I"⟩, .selects "NestedChecker" ⟨"NestedChecker", "refuse", "(I)I"⟩ ⟨"NestedChecker", "refuse", "(I)I"⟩, .methodLink "NestedChecker" 110 ⟨"NestedChecker", "refuse", "(I)I"⟩] ++ wsX110 ++ wsX90)
set_option maxRecDepth 20000 in
theorem g_c_X11_depth_c_X11_within : GoodIn ws_c_X11_depth ws_c_X11_within := goodIn_r _ [1] (by decide +kernel) (by decide +kernel)
set_option maxRecDepth 20000 in
theorem g_c_X11_depth_c_X11_wordRefusal : GoodIn ws_c_X11_depth ws_c_X11_wordRefusal := goodIn_r _ [5, 6, 7, 1, 2, 3, 8, 9, 10, 11, 4, 12, 13, 14, 15, 16, 25, 26, 27, 28, 29, 30, 31, 32, 33, 34, 35, 36, 37, 38, 39, 40, 41, 42] (by decide +kernel) (by decide +kernel)
set_option maxRecDepth 20000 in
theorem g_c_X11_depth_c_X11_refuse : GoodIn ws_c_X11_depth ws_c_X11_refuse := goodIn_r _ [20, 21, 25, 26, 27, 28, 29, 30, 31, 32, 33, 34, 35, 36, 37, 38, 39] (by decide +kernel) (by decide +kernel)
set_option maxHeartbeats 4000000 in
set_option maxRecDepth 100000 in
theorem c_X11_depth (l : Launch) (D : va_G) (k : jK) (h0 : Nat) (a2 : Nat) (a4 : Nat) (a5 : Nat) (a6 : Nat) (a7 : Nat) (a8 : Nat) (a9 : Nat) (a10 : Nat) (t0 : Nat) (s0 : Nat) (t1 : Nat) (t2 : Nat) (t3 : Nat) (fp : Nat → Int32) (i1 : Int32) (i2 : Int32) (i3 : Int32) (sz : Nat) (hp : ∀ j, j < 4 → fp j = -1) : Met l yX11_depth ws_c_X11_depth ({ frames := 3, cells := 0, slots := 0, locals := 69 }) (jy_P [.ref h0, .int i1, .int i2, .int i3] D vwCl (jT k) jW [(h0, .inr (10, [.int 0, .long 0, .long 1, .ref t0, .ref a2, .ref s0, .ref a4, .int 0, .ref a5, .ref a6, .ref a7, .ref a8, .ref a9, .ref a10, .int 0])), (t0, .inr (8, [.ref t1, .ref t2, .ref t3])), (t3, .inl (k.2.1, 4, .inl fp))] sz) (va_Qi (fun (r : Int32) (u : Unit) => r = -1) (jy_B D vwCl (va_A [(h0, .inr (10, [.int 0, .long 0, .long 1, .ref t0, .ref a2, .ref s0, .ref a4, .int 0, .ref a5, .ref a6, .ref a7, .ref a8, .ref a9, .ref a10, .int 0])), (t0, .inr (8, [.ref t1, .ref t2, .ref t3])), (t3, .inl (k.2.1, 4, .inl fp))] sz) (fun (u : Unit) => [])) (va_A [(h0, .inr (10, [.int 0, .long 0, .long 1, .ref t0, .ref a2, .ref s0, .ref a4, .int 0, .ref a5, .ref a6, .ref a7, .ref a8, .ref a9, .ref a10, .int 0])), (t0, .inr (8, [.ref t1, .ref t2, .ref t3])), (t3, .inl (k.2.1, 4, .inl fp))] sz)) 0 0 (va_A [(h0, .inr (10, [.int 0, .long 0, .long 1, .ref t0, .ref a2, .ref s0, .ref a4, .int 0, .ref a5, .ref a6, .ref a7, .ref a8, .ref a9, .ref a10, .int 0])), (t0, .inr (8, [.ref t1, .ref t2, .ref t3])), (t3, .inl (k.2.1, 4, .inl fp))] sz) := by
  refine jy_met (cc := cX11_depth) (maxL := 10) (ret := (some .int)) (lv := [(0, .ref h0), (1, .int i1), (2, .int i2), (3, .int i3)]) (by decide) rfl (Nat.le_of_ble_eq_true rfl) rfl ?_
  intro p e s m below meth c F hr hlk hnm hN hA
  have hiX11 : ∀ w ∈ u_ws RX11 TX11 15, w ∈ ws_c_X11_depth := fun w hw => List.mem_cons_of_mem _ (List.mem_append_left _ (List.mem_append_right _ hw))
  have hiX9 : ∀ w ∈ u_ws RX9 TX9 3, w ∈ ws_c_X11_depth := fun w hw => List.mem_cons_of_mem _ (List.mem_append_right _ hw)
  refine jy_aload_n (pc' := 1) F 0 dX11_depth_0 rfl rfl rfl ?_
  refine jy_iload_n (pc' := 2) F 3 dX11_depth_1 rfl rfl rfl ?_
  refine jy_iconst (pc' := 3) (v := 0) F dX11_depth_2 (by decide) rfl ?_
  refine jy_iconst (pc' := 4) (v := 2) F dX11_depth_3 (by decide) rfl ?_
  refine jy_callSi (pc' := 7) (jy_runS (As := [.int i3, .int 0, .int 2]) (st := [.ref h0]) F hN (fun sz => c_X11_within l D k i3 0 2 sz ) (jy_cS F g_c_X11_depth_c_X11_within rfl hdX11_within (List.mem_of_getElem? (i := 2) rfl) (List.mem_of_getElem? (i := 4) rfl) (List.mem_of_getElem? (i := 3) rfl) rfl rfl ⟨by decide, by decide⟩) [] rfl (by decide) rfl rfl (Nat.le_of_ble_eq_true rfl) dX11_depth_4 ⟨by decide, by decide⟩) rfl (fun r_1 e_2 => ?_)
  rcases e_2 with ⟨z_4, h_3⟩ | ⟨z_5, h_3⟩
  · subst z_4
    refine jy_iload_n (pc' := 8) F 1 dX11_depth_7 rfl rfl rfl ?_
    refine jy_iload_n (pc' := 9) F 2 dX11_depth_8 rfl rfl rfl ?_
    refine jy_callSi (pc' := 12) (jy_runV (As := [.int 1, .int i1, .int i2]) (b := h0) (q0 := 0) (ci := 10) (C := RX11) (T := TX11) (N := 15) (st := []) F hN (fun sz => c_X11_wordRefusal l D k h0 a2 a4 a5 a6 a7 a8 a9 a10 t0 s0 t1 t2 t3 fp 1 i1 i2 sz (hp)) (jy_cV F g_c_X11_depth_c_X11_wordRefusal rfl hdX11_wordRefusal (List.mem_of_getElem? (i := 2) rfl) (List.mem_of_getElem? (i := 19) rfl) (List.mem_of_getElem? (i := 17) rfl) (List.mem_of_getElem? (i := 18) rfl) rfl rfl ⟨by decide, by decide⟩) rfl rfl [0, 1, 2] rfl (by decide) rfl rfl (Nat.le_of_ble_eq_true rfl) dX11_depth_9 ⟨by decide, by decide⟩) rfl (fun r_6 e_7 => ?_)
    refine jy_istore (pc' := 14) (lv' := [(4, .int r_6), (0, .ref h0), (1, .int i1), (2, .int i2), (3, .int i3)]) F dX11_depth_12 (by decide) rfl rfl ?_
    refine jy_iload (pc' := 16) F 0 dX11_depth_14 rfl rfl ?_
    refine jy_if_eq (pc' := 19) (tgt := 26) F dX11_depth_16 (by decide) rfl (fun h => absurd h (e_7)) (fun _ => ?_)
    refine jy_aload_n (pc' := 20) F 1 dX11_depth_19 rfl rfl rfl ?_
    refine jy_iload (pc' := 22) F 0 dX11_depth_20 rfl rfl ?_
    refine jy_calli (pc' := 25) (cells' := 0) (slots' := 0) (wr := [(t0, .inr (8, [.ref t1, .ref t2, .ref t3])), (t3, .inl (k.2.1, 4, .inl fp))]) hA [0] [1, 2] rfl rfl (by decide) (by decide) (jy_runV (As := [.int r_6]) (b := h0) (q0 := 0) (ci := 10) (C := RX11) (T := TX11) (N := 15) (st := []) F hN (fun sz => c_X11_refuse l D k h0 0 (.long 0) (.long 1) (.ref t0) (.ref a2) (.ref s0) (.ref a4) (.int 0) (.ref a5) (.ref a6) (.ref a7) (.ref a8) (.ref a9) (.ref a10) (.int 0) r_6 sz ) (jy_cV F g_c_X11_depth_c_X11_refuse rfl hdX11_refuse (List.mem_of_getElem? (i := 2) rfl) (List.mem_of_getElem? (i := 24) rfl) (List.mem_of_getElem? (i := 22) rfl) (List.mem_of_getElem? (i := 23) rfl) rfl rfl ⟨by decide, by decide⟩) rfl rfl [0] rfl (by decide) rfl rfl (Nat.le_of_ble_eq_true rfl) dX11_depth_22 ⟨by decide, by decide⟩) rfl rfl rfl (fun r_11 u_9 e_10 => ?_)
    subst e_10
    refine jy_widen (cells' := 0) (slots' := 0) (by decide) (by decide) ?_
    exact jy_iret (v := (-1)) F hr hlk () (rfl) [] rfl (by decide) dX11_depth_25
  · subst z_5
    refine jy_iload_n (pc' := 8) F 1 dX11_depth_7 rfl rfl rfl ?_
    refine jy_iload_n (pc' := 9) F 2 dX11_depth_8 rfl rfl rfl ?_
    refine jy_callSi (pc' := 12) (jy_runV (As := [.int 0, .int i1, .int i2]) (b := h0) (q0 := 0) (ci := 10) (C := RX11) (T := TX11) (N := 15) (st := []) F hN (fun sz => c_X11_wordRefusal l D k h0 a2 a4 a5 a6 a7 a8 a9 a10 t0 s0 t1 t2 t3 fp 0 i1 i2 sz (hp)) (jy_cV F g_c_X11_depth_c_X11_wordRefusal rfl hdX11_wordRefusal (List.mem_of_getElem? (i := 2) rfl) (List.mem_of_getElem? (i := 19) rfl) (List.mem_of_getElem? (i := 17) rfl) (List.mem_of_getElem? (i := 18) rfl) rfl rfl ⟨by decide, by decide⟩) rfl rfl [0, 1, 2] rfl (by decide) rfl rfl (Nat.le_of_ble_eq_true rfl) dX11_depth_9 ⟨by decide, by decide⟩) rfl (fun r_12 e_13 => ?_)
    refine jy_istore (pc' := 14) (lv' := [(4, .int r_12), (0, .ref h0), (1, .int i1), (2, .int i2), (3, .int i3)]) F dX11_depth_12 (by decide) rfl rfl ?_
    refine jy_iload (pc' := 16) F 0 dX11_depth_14 rfl rfl ?_
    refine jy_if_eq (pc' := 19) (tgt := 26) F dX11_depth_16 (by decide) rfl (fun h => absurd h (e_13)) (fun _ => ?_)
    refine jy_aload_n (pc' := 20) F 1 dX11_depth_19 rfl rfl rfl ?_
    refine jy_iload (pc' := 22) F 0 dX11_depth_20 rfl rfl ?_
    refine jy_calli (pc' := 25) (cells' := 0) (slots' := 0) (wr := [(t0, .inr (8, [.ref t1, .ref t2, .ref t3])), (t3, .inl (k.2.1, 4, .inl fp))]) hA [0] [1, 2] rfl rfl (by decide) (by decide) (jy_runV (As := [.int r_12]) (b := h0) (q0 := 0) (ci := 10) (C := RX11) (T := TX11) (N := 15) (st := []) F hN (fun sz => c_X11_refuse l D k h0 0 (.long 0) (.long 1) (.ref t0) (.ref a2) (.ref s0) (.ref a4) (.int 0) (.ref a5) (.ref a6) (.ref a7) (.ref a8) (.ref a9) (.ref a10) (.int 0) r_12 sz ) (jy_cV F g_c_X11_depth_c_X11_refuse rfl hdX11_refuse (List.mem_of_getElem? (i := 2) rfl) (List.mem_of_getElem? (i := 24) rfl) (List.mem_of_getElem? (i := 22) rfl) (List.mem_of_getElem? (i := 23) rfl) rfl rfl ⟨by decide, by decide⟩) rfl rfl [0] rfl (by decide) rfl rfl (Nat.le_of_ble_eq_true rfl) dX11_depth_22 ⟨by decide, by decide⟩) rfl rfl rfl (fun r_17 u_15 e_16 => ?_)
    subst e_16
    refine jy_widen (cells' := 0) (slots' := 0) (by decide) (by decide) ?_
    exact jy_iret (v := (-1)) F hr hlk () (rfl) [] rfl (by decide) dX11_depth_25
abbrev cX11_partner : ByteArray := prog_1_method_24_code
def yX11_partner : MethodName := ⟨RX11, "partner", "(III)I"⟩
theorem hdX11_partner : yX11_partner.cls ≠ "java/lang/invoke/MethodHandle" ∧ yX11_partner.cls ≠ "java/lang/invoke/VarHandle" ∧ (parseMethodDescriptor yX11_partner.desc).map (fun d => d.parameters.length) = some 3 := by decide +kernel
theorem dX11_partner_0 : decode cX11_partner 0 = .ok (.aload_n 0, 1) := by decide +kernel
theorem dX11_partner_1 : decode cX11_partner 1 = .ok (.iload_n 3, 1) := by decide +kernel
theorem dX11_partner_2 : decode cX11_partner 2 = .ok (.ifCond .lt 12, 3) := by decide +kernel
theorem dX11_partner_5 : decode cX11_partner 5 = .ok (.iload_n 3, 1) := by decide +kernel
theorem dX11_partner_6 : decode cX11_partner 6 = .ok (.iload_n 2, 1) := by decide +kernel
theorem dX11_partner_7 : decode cX11_partner 7 = .ok (.if_icmp .ge 7, 3) := by decide +kernel
theorem dX11_partner_10 : decode cX11_partner 10 = .ok (.iconst 1, 1) := by decide +kernel
theorem dX11_partner_11 : decode cX11_partner 11 = .ok (.goto 4, 3) := by decide +kernel
theorem dX11_partner_14 : decode cX11_partner 14 = .ok (.iconst 0, 1) := by decide +kernel
theorem dX11_partner_15 : decode cX11_partner 15 = .ok (.iload_n 1, 1) := by decide +kernel
theorem dX11_partner_16 : decode cX11_partner 16 = .ok (.iload_n 2, 1) := by decide +kernel
theorem dX11_partner_17 : decode cX11_partner 17 = .ok (.invokevirtual 226, 3) := by decide +kernel
theorem dX11_partner_20 : decode cX11_partner 20 = .ok (.istore 4, 2) := by decide +kernel
theorem dX11_partner_22 : decode cX11_partner 22 = .ok (.iload 4, 2) := by decide +kernel
theorem dX11_partner_24 : decode cX11_partner 24 = .ok (.ifCond .eq 10, 3) := by decide +kernel
theorem dX11_partner_27 : decode cX11_partner 27 = .ok (.aload_n 0, 1) := by decide +kernel
theorem dX11_partner_28 : decode cX11_partner 28 = .ok (.iload 4, 2) := by decide +kernel
theorem dX11_partner_30 : decode cX11_partner 30 = .ok (.invokevirtual 110, 3) := by decide +kernel
theorem dX11_partner_33 : decode cX11_partner 33 = .ok (.ireturn, 1) := by decide +kernel
def ws_c_X11_partner : List Cond := .code yX11_partner cX11_partner 6 (some .int) :: ([.code ⟨"NestedChecker", "wordRefusal", "(ZII)I"⟩ cX11_wordRefusal 7 (some .int), .fieldLink "NestedChecker" 10 "NestedChecker" "trays" "LNestedChecker$Trays;", .code ⟨"NestedChecker$Trays", "has", "(I)Z"⟩ cX9_has 2 (some .boolean), .code ⟨"NestedChecker", "within", "(III)Z"⟩ cX11_within 3 (some .boolean), .initialized "NestedChecker", .static ⟨"NestedChecker", "within", "(III)Z"⟩, .initialized "NestedChecker$Trays", .instanceMethod ⟨"NestedChecker$Trays", "has", "(I)Z"⟩, .selects "NestedChecker$Trays" ⟨"NestedChecker$Trays", "has", "(I)Z"⟩ ⟨"NestedChecker$Trays", "has", "(I)Z"⟩, .methodLink "NestedChecker" 83 ⟨"NestedChecker$Trays", "has", "(I)Z"⟩, .methodLink "NestedChecker" 87 ⟨"NestedChecker", "within", "(III)Z"⟩, .code ⟨"NestedChecker$Trays", "isMissing", "(I)Z"⟩ cX9_isMissing 2 (some .boolean), .fieldLink "NestedChecker$Trays" 19 "NestedChecker$Trays" "places" "[I", .instanceMethod ⟨"NestedChecker$Trays", "isMissing", "(I)Z"⟩, .selects "NestedChecker$Trays" ⟨"NestedChecker$Trays", "isMissing", "(I)Z"⟩ ⟨"NestedChecker$Trays", "isMissing", "(I)Z"⟩, .methodLink "NestedChecker" 351 ⟨"NestedChecker$Trays", "isMissing", "(I)Z"⟩, .instanceMethod ⟨"NestedChecker", "wordRefusal", "(ZII)I"⟩, .selects "NestedChecker" ⟨"NestedChecker", "wordRefusal", "(ZII)I"⟩ ⟨"NestedChecker", "wordRefusal", "(ZII)I"⟩, .methodLink "NestedChecker" 226 ⟨"NestedChecker", "wordRefusal", "(ZII)I"⟩, .code ⟨"NestedChecker", "refuse", "(I)I"⟩ cX11_refuse 2 (some .int), .fieldLink "NestedChecker" 72 "NestedChecker" "lastStatus" "I", .instanceMethod ⟨"NestedChecker", "refuse", "(I)I"⟩, .selects "NestedChecker" ⟨"NestedChecker", "refuse", "(I)I"⟩ ⟨"NestedChecker", "refuse", "(I)I"⟩, .methodLink "NestedChecker" 110 ⟨"NestedChecker", "refuse", "(I)I"⟩] ++ wsX110 ++ wsX90)
set_option maxRecDepth 20000 in
theorem g_c_X11_partner_c_X11_wordRefusal : GoodIn ws_c_X11_partner ws_c_X11_wordRefusal := goodIn_r _ [1, 2, 3, 4, 5, 6, 7, 8, 9, 10, 11, 12, 13, 14, 15, 16, 25, 26, 27, 28, 29, 30, 31, 32, 33, 34, 35, 36, 37, 38, 39, 40, 41, 42] (by decide +kernel) (by decide +kernel)
set_option maxRecDepth 20000 in
theorem g_c_X11_partner_c_X11_refuse : GoodIn ws_c_X11_partner ws_c_X11_refuse := goodIn_r _ [20, 21, 25, 26, 27, 28, 29, 30, 31, 32, 33, 34, 35, 36, 37, 38, 39] (by decide +kernel) (by decide +kernel)
set_option maxHeartbeats 4000000 in
set_option maxRecDepth 100000 in
theorem c_X11_partner (l : Launch) (D : va_G) (k : jK) (h0 : Nat) (a2 : Nat) (a4 : Nat) (a5 : Nat) (a6 : Nat) (a7 : Nat) (a8 : Nat) (a9 : Nat) (a10 : Nat) (t0 : Nat) (s0 : Nat) (t1 : Nat) (t2 : Nat) (t3 : Nat) (fp : Nat → Int32) (i1 : Int32) (i2 : Int32) (i3 : Int32) (sz : Nat) (hp : ∀ j, j < 4 → fp j = -1) : Met l yX11_partner ws_c_X11_partner ({ frames := 3, cells := 0, slots := 0, locals := 69 }) (jy_P [.ref h0, .int i1, .int i2, .int i3] D vwCl (jT k) jW [(h0, .inr (10, [.int 0, .long 0, .long 1, .ref t0, .ref a2, .ref s0, .ref a4, .int 0, .ref a5, .ref a6, .ref a7, .ref a8, .ref a9, .ref a10, .int 0])), (t0, .inr (8, [.ref t1, .ref t2, .ref t3])), (t3, .inl (k.2.1, 4, .inl fp))] sz) (va_Qi (fun (r : Int32) (u : Unit) => r = -1) (jy_B D vwCl (va_A [(h0, .inr (10, [.int 0, .long 0, .long 1, .ref t0, .ref a2, .ref s0, .ref a4, .int 0, .ref a5, .ref a6, .ref a7, .ref a8, .ref a9, .ref a10, .int 0])), (t0, .inr (8, [.ref t1, .ref t2, .ref t3])), (t3, .inl (k.2.1, 4, .inl fp))] sz) (fun (u : Unit) => [])) (va_A [(h0, .inr (10, [.int 0, .long 0, .long 1, .ref t0, .ref a2, .ref s0, .ref a4, .int 0, .ref a5, .ref a6, .ref a7, .ref a8, .ref a9, .ref a10, .int 0])), (t0, .inr (8, [.ref t1, .ref t2, .ref t3])), (t3, .inl (k.2.1, 4, .inl fp))] sz)) 0 0 (va_A [(h0, .inr (10, [.int 0, .long 0, .long 1, .ref t0, .ref a2, .ref s0, .ref a4, .int 0, .ref a5, .ref a6, .ref a7, .ref a8, .ref a9, .ref a10, .int 0])), (t0, .inr (8, [.ref t1, .ref t2, .ref t3])), (t3, .inl (k.2.1, 4, .inl fp))] sz) := by
  refine jy_met (cc := cX11_partner) (maxL := 6) (ret := (some .int)) (lv := [(0, .ref h0), (1, .int i1), (2, .int i2), (3, .int i3)]) (by decide) rfl (Nat.le_of_ble_eq_true rfl) rfl ?_
  intro p e s m below meth c F hr hlk hnm hN hA
  have hiX11 : ∀ w ∈ u_ws RX11 TX11 15, w ∈ ws_c_X11_partner := fun w hw => List.mem_cons_of_mem _ (List.mem_append_left _ (List.mem_append_right _ hw))
  have hiX9 : ∀ w ∈ u_ws RX9 TX9 3, w ∈ ws_c_X11_partner := fun w hw => List.mem_cons_of_mem _ (List.mem_append_right _ hw)
  refine jy_aload_n (pc' := 1) F 0 dX11_partner_0 rfl rfl rfl ?_
  refine jy_iload_n (pc' := 2) F 3 dX11_partner_1 rfl rfl rfl ?_
  refine jy_if_lt (pc' := 5) (tgt := 14) F dX11_partner_2 (by decide) rfl (fun h_1 => ?_) (fun h_1 => ?_)
  · refine jy_iconst (pc' := 15) (v := 0) F dX11_partner_14 (by decide) rfl ?_
    refine jy_iload_n (pc' := 16) F 1 dX11_partner_15 rfl rfl rfl ?_
    refine jy_iload_n (pc' := 17) F 2 dX11_partner_16 rfl rfl rfl ?_
    refine jy_callSi (pc' := 20) (jy_runV (As := [.int 0, .int i1, .int i2]) (b := h0) (q0 := 0) (ci := 10) (C := RX11) (T := TX11) (N := 15) (st := []) F hN (fun sz => c_X11_wordRefusal l D k h0 a2 a4 a5 a6 a7 a8 a9 a10 t0 s0 t1 t2 t3 fp 0 i1 i2 sz (hp)) (jy_cV F g_c_X11_partner_c_X11_wordRefusal rfl hdX11_wordRefusal (List.mem_of_getElem? (i := 5) rfl) (List.mem_of_getElem? (i := 19) rfl) (List.mem_of_getElem? (i := 17) rfl) (List.mem_of_getElem? (i := 18) rfl) rfl rfl ⟨by decide, by decide⟩) rfl rfl [0, 1, 2] rfl (by decide) rfl rfl (Nat.le_of_ble_eq_true rfl) dX11_partner_17 ⟨by decide, by decide⟩) rfl (fun r_2 e_3 => ?_)
    refine jy_istore (pc' := 22) (lv' := [(4, .int r_2), (0, .ref h0), (1, .int i1), (2, .int i2), (3, .int i3)]) F dX11_partner_20 (by decide) rfl rfl ?_
    refine jy_iload (pc' := 24) F 0 dX11_partner_22 rfl rfl ?_
    refine jy_if_eq (pc' := 27) (tgt := 34) F dX11_partner_24 (by decide) rfl (fun h => absurd h (e_3)) (fun _ => ?_)
    refine jy_aload_n (pc' := 28) F 1 dX11_partner_27 rfl rfl rfl ?_
    refine jy_iload (pc' := 30) F 0 dX11_partner_28 rfl rfl ?_
    refine jy_calli (pc' := 33) (cells' := 0) (slots' := 0) (wr := [(t0, .inr (8, [.ref t1, .ref t2, .ref t3])), (t3, .inl (k.2.1, 4, .inl fp))]) hA [0] [1, 2] rfl rfl (by decide) (by decide) (jy_runV (As := [.int r_2]) (b := h0) (q0 := 0) (ci := 10) (C := RX11) (T := TX11) (N := 15) (st := []) F hN (fun sz => c_X11_refuse l D k h0 0 (.long 0) (.long 1) (.ref t0) (.ref a2) (.ref s0) (.ref a4) (.int 0) (.ref a5) (.ref a6) (.ref a7) (.ref a8) (.ref a9) (.ref a10) (.int 0) r_2 sz ) (jy_cV F g_c_X11_partner_c_X11_refuse rfl hdX11_refuse (List.mem_of_getElem? (i := 5) rfl) (List.mem_of_getElem? (i := 24) rfl) (List.mem_of_getElem? (i := 22) rfl) (List.mem_of_getElem? (i := 23) rfl) rfl rfl ⟨by decide, by decide⟩) rfl rfl [0] rfl (by decide) rfl rfl (Nat.le_of_ble_eq_true rfl) dX11_partner_30 ⟨by decide, by decide⟩) rfl rfl rfl (fun r_7 u_5 e_6 => ?_)
    subst e_6
    refine jy_widen (cells' := 0) (slots' := 0) (by decide) (by decide) ?_
    exact jy_iret (v := (-1)) F hr hlk () (rfl) [] rfl (by decide) dX11_partner_33
  · refine jy_iload_n (pc' := 6) F 3 dX11_partner_5 rfl rfl rfl ?_
    refine jy_iload_n (pc' := 7) F 2 dX11_partner_6 rfl rfl rfl ?_
    refine jy_icmp_ge (pc' := 10) (tgt := 14) F dX11_partner_7 (by decide) rfl (fun h_8 => ?_) (fun h_8 => ?_)
    · refine jy_iconst (pc' := 15) (v := 0) F dX11_partner_14 (by decide) rfl ?_
      refine jy_iload_n (pc' := 16) F 1 dX11_partner_15 rfl rfl rfl ?_
      refine jy_iload_n (pc' := 17) F 2 dX11_partner_16 rfl rfl rfl ?_
      refine jy_callSi (pc' := 20) (jy_runV (As := [.int 0, .int i1, .int i2]) (b := h0) (q0 := 0) (ci := 10) (C := RX11) (T := TX11) (N := 15) (st := []) F hN (fun sz => c_X11_wordRefusal l D k h0 a2 a4 a5 a6 a7 a8 a9 a10 t0 s0 t1 t2 t3 fp 0 i1 i2 sz (hp)) (jy_cV F g_c_X11_partner_c_X11_wordRefusal rfl hdX11_wordRefusal (List.mem_of_getElem? (i := 5) rfl) (List.mem_of_getElem? (i := 19) rfl) (List.mem_of_getElem? (i := 17) rfl) (List.mem_of_getElem? (i := 18) rfl) rfl rfl ⟨by decide, by decide⟩) rfl rfl [0, 1, 2] rfl (by decide) rfl rfl (Nat.le_of_ble_eq_true rfl) dX11_partner_17 ⟨by decide, by decide⟩) rfl (fun r_9 e_10 => ?_)
      refine jy_istore (pc' := 22) (lv' := [(4, .int r_9), (0, .ref h0), (1, .int i1), (2, .int i2), (3, .int i3)]) F dX11_partner_20 (by decide) rfl rfl ?_
      refine jy_iload (pc' := 24) F 0 dX11_partner_22 rfl rfl ?_
      refine jy_if_eq (pc' := 27) (tgt := 34) F dX11_partner_24 (by decide) rfl (fun h => absurd h (e_10)) (fun _ => ?_)
      refine jy_aload_n (pc' := 28) F 1 dX11_partner_27 rfl rfl rfl ?_
      refine jy_iload (pc' := 30) F 0 dX11_partner_28 rfl rfl ?_
      refine jy_calli (pc' := 33) (cells' := 0) (slots' := 0) (wr := [(t0, .inr (8, [.ref t1, .ref t2, .ref t3])), (t3, .inl (k.2.1, 4, .inl fp))]) hA [0] [1, 2] rfl rfl (by decide) (by decide) (jy_runV (As := [.int r_9]) (b := h0) (q0 := 0) (ci := 10) (C := RX11) (T := TX11) (N := 15) (st := []) F hN (fun sz => c_X11_refuse l D k h0 0 (.long 0) (.long 1) (.ref t0) (.ref a2) (.ref s0) (.ref a4) (.int 0) (.ref a5) (.ref a6) (.ref a7) (.ref a8) (.ref a9) (.ref a10) (.int 0) r_9 sz ) (jy_cV F g_c_X11_partner_c_X11_refuse rfl hdX11_refuse (List.mem_of_getElem? (i := 5) rfl) (List.mem_of_getElem? (i := 24) rfl) (List.mem_of_getElem? (i := 22) rfl) (List.mem_of_getElem? (i := 23) rfl) rfl rfl ⟨by decide, by decide⟩) rfl rfl [0] rfl (by decide) rfl rfl (Nat.le_of_ble_eq_true rfl) dX11_partner_30 ⟨by decide, by decide⟩) rfl rfl rfl (fun r_14 u_12 e_13 => ?_)
      subst e_13
      refine jy_widen (cells' := 0) (slots' := 0) (by decide) (by decide) ?_
      exact jy_iret (v := (-1)) F hr hlk () (rfl) [] rfl (by decide) dX11_partner_33
    · refine jy_iconst (pc' := 11) (v := 1) F dX11_partner_10 (by decide) rfl ?_
      refine jy_goto (tgt := 15) F dX11_partner_11 (by decide) ?_
      refine jy_iload_n (pc' := 16) F 1 dX11_partner_15 rfl rfl rfl ?_
      refine jy_iload_n (pc' := 17) F 2 dX11_partner_16 rfl rfl rfl ?_
      refine jy_callSi (pc' := 20) (jy_runV (As := [.int 1, .int i1, .int i2]) (b := h0) (q0 := 0) (ci := 10) (C := RX11) (T := TX11) (N := 15) (st := []) F hN (fun sz => c_X11_wordRefusal l D k h0 a2 a4 a5 a6 a7 a8 a9 a10 t0 s0 t1 t2 t3 fp 1 i1 i2 sz (hp)) (jy_cV F g_c_X11_partner_c_X11_wordRefusal rfl hdX11_wordRefusal (List.mem_of_getElem? (i := 5) rfl) (List.mem_of_getElem? (i := 19) rfl) (List.mem_of_getElem? (i := 17) rfl) (List.mem_of_getElem? (i := 18) rfl) rfl rfl ⟨by decide, by decide⟩) rfl rfl [0, 1, 2] rfl (by decide) rfl rfl (Nat.le_of_ble_eq_true rfl) dX11_partner_17 ⟨by decide, by decide⟩) rfl (fun r_15 e_16 => ?_)
      refine jy_istore (pc' := 22) (lv' := [(4, .int r_15), (0, .ref h0), (1, .int i1), (2, .int i2), (3, .int i3)]) F dX11_partner_20 (by decide) rfl rfl ?_
      refine jy_iload (pc' := 24) F 0 dX11_partner_22 rfl rfl ?_
      refine jy_if_eq (pc' := 27) (tgt := 34) F dX11_partner_24 (by decide) rfl (fun h => absurd h (e_16)) (fun _ => ?_)
      refine jy_aload_n (pc' := 28) F 1 dX11_partner_27 rfl rfl rfl ?_
      refine jy_iload (pc' := 30) F 0 dX11_partner_28 rfl rfl ?_
      refine jy_calli (pc' := 33) (cells' := 0) (slots' := 0) (wr := [(t0, .inr (8, [.ref t1, .ref t2, .ref t3])), (t3, .inl (k.2.1, 4, .inl fp))]) hA [0] [1, 2] rfl rfl (by decide) (by decide) (jy_runV (As := [.int r_15]) (b := h0) (q0 := 0) (ci := 10) (C := RX11) (T := TX11) (N := 15) (st := []) F hN (fun sz => c_X11_refuse l D k h0 0 (.long 0) (.long 1) (.ref t0) (.ref a2) (.ref s0) (.ref a4) (.int 0) (.ref a5) (.ref a6) (.ref a7) (.ref a8) (.ref a9) (.ref a10) (.int 0) r_15 sz ) (jy_cV F g_c_X11_partner_c_X11_refuse rfl hdX11_refuse (List.mem_of_getElem? (i := 5) rfl) (List.mem_of_getElem? (i := 24) rfl) (List.mem_of_getElem? (i := 22) rfl) (List.mem_of_getElem? (i := 23) rfl) rfl rfl ⟨by decide, by decide⟩) rfl rfl [0] rfl (by decide) rfl rfl (Nat.le_of_ble_eq_true rfl) dX11_partner_30 ⟨by decide, by decide⟩) rfl rfl rfl (fun r_20 u_18 e_19 => ?_)
      subst e_19
      refine jy_widen (cells' := 0) (slots' := 0) (by decide) (by decide) ?_
      exact jy_iret (v := (-1)) F hr hlk () (rfl) [] rfl (by decide) dX11_partner_33
abbrev cX11_table : ByteArray := prog_1_method_25_code
def yX11_table : MethodName := ⟨RX11, "table", "(I)I"⟩
theorem hdX11_table : yX11_table.cls ≠ "java/lang/invoke/MethodHandle" ∧ yX11_table.cls ≠ "java/lang/invoke/VarHandle" ∧ (parseMethodDescriptor yX11_table.desc).map (fun d => d.parameters.length) = some 1 := by decide +kernel
theorem dX11_table_0 : decode cX11_table 0 = .ok (.aload_n 0, 1) := by decide +kernel
theorem dX11_table_1 : decode cX11_table 1 = .ok (.getfield 26, 3) := by decide +kernel
theorem dX11_table_4 : decode cX11_table 4 = .ok (.iload_n 1, 1) := by decide +kernel
theorem dX11_table_5 : decode cX11_table 5 = .ok (.invokevirtual 163, 3) := by decide +kernel
theorem dX11_table_8 : decode cX11_table 8 = .ok (.ifCond .ne 9, 3) := by decide +kernel
theorem dX11_table_11 : decode cX11_table 11 = .ok (.aload_n 0, 1) := by decide +kernel
theorem dX11_table_12 : decode cX11_table 12 = .ok (.iconst 1, 1) := by decide +kernel
theorem dX11_table_13 : decode cX11_table 13 = .ok (.invokevirtual 110, 3) := by decide +kernel
theorem dX11_table_16 : decode cX11_table 16 = .ok (.ireturn, 1) := by decide +kernel
def ws_c_X11_table : List Cond := .code yX11_table cX11_table 3 (some .int) :: ([.fieldLink "NestedChecker" 26 "NestedChecker" "live" "LNestedChecker$Setting;", .code ⟨"NestedChecker$Setting", "has", "(I)Z"⟩ cX5_has 2 (some .boolean), .fieldLink "NestedChecker$Setting" 38 "NestedChecker$Setting" "automata" "I", .initialized "NestedChecker$Setting", .instanceMethod ⟨"NestedChecker$Setting", "has", "(I)Z"⟩, .selects "NestedChecker$Setting" ⟨"NestedChecker$Setting", "has", "(I)Z"⟩ ⟨"NestedChecker$Setting", "has", "(I)Z"⟩, .methodLink "NestedChecker" 163 ⟨"NestedChecker$Setting", "has", "(I)Z"⟩, .code ⟨"NestedChecker", "refuse", "(I)I"⟩ cX11_refuse 2 (some .int), .fieldLink "NestedChecker" 72 "NestedChecker" "lastStatus" "I", .initialized "NestedChecker", .instanceMethod ⟨"NestedChecker", "refuse", "(I)I"⟩, .selects "NestedChecker" ⟨"NestedChecker", "refuse", "(I)I"⟩ ⟨"NestedChecker", "refuse", "(I)I"⟩, .methodLink "NestedChecker" 110 ⟨"NestedChecker", "refuse", "(I)I"⟩] ++ wsX110 ++ wsX50)
set_option maxRecDepth 20000 in
theorem g_c_X11_table_c_X5_has : GoodIn ws_c_X11_table ws_c_X5_has := goodIn_r _ [2, 3, 29, 30, 31, 32, 33, 34, 35] (by decide +kernel) (by decide +kernel)
set_option maxRecDepth 20000 in
theorem g_c_X11_table_c_X11_refuse : GoodIn ws_c_X11_table ws_c_X11_refuse := goodIn_r _ [8, 9, 14, 15, 16, 17, 18, 19, 20, 21, 22, 23, 24, 25, 26, 27, 28] (by decide +kernel) (by decide +kernel)
set_option maxHeartbeats 4000000 in
set_option maxRecDepth 100000 in
theorem c_X11_table (l : Launch) (D : va_G) (k : jK) (h0 : Nat) (a2 : Nat) (a4 : Nat) (a5 : Nat) (a6 : Nat) (a7 : Nat) (a8 : Nat) (a9 : Nat) (a10 : Nat) (t0 : Nat) (s0 : Nat) (s1 : Nat) (s2 : Nat) (s3 : Nat) (i1 : Int32) (sz : Nat)  : Met l yX11_table ws_c_X11_table ({ frames := 1, cells := 0, slots := 0, locals := 21 }) (jy_P [.ref h0, .int i1] D vwCl (jT k) jW [(h0, .inr (10, [.int 0, .long 0, .long 1, .ref t0, .ref a2, .ref s0, .ref a4, .int 0, .ref a5, .ref a6, .ref a7, .ref a8, .ref a9, .ref a10, .int 0])), (s0, .inr (4, [.int 0, .int 0, .int 0, .int 0, .ref s1, .ref s2, .ref s3]))] sz) (va_Qi (fun (r : Int32) (u : Unit) => r = -1) (jy_B D vwCl (va_A [(h0, .inr (10, [.int 0, .long 0, .long 1, .ref t0, .ref a2, .ref s0, .ref a4, .int 0, .ref a5, .ref a6, .ref a7, .ref a8, .ref a9, .ref a10, .int 0])), (s0, .inr (4, [.int 0, .int 0, .int 0, .int 0, .ref s1, .ref s2, .ref s3]))] sz) (fun (u : Unit) => [])) (va_A [(h0, .inr (10, [.int 0, .long 0, .long 1, .ref t0, .ref a2, .ref s0, .ref a4, .int 0, .ref a5, .ref a6, .ref a7, .ref a8, .ref a9, .ref a10, .int 0])), (s0, .inr (4, [.int 0, .int 0, .int 0, .int 0, .ref s1, .ref s2, .ref s3]))] sz)) 0 0 (va_A [(h0, .inr (10, [.int 0, .long 0, .long 1, .ref t0, .ref a2, .ref s0, .ref a4, .int 0, .ref a5, .ref a6, .ref a7, .ref a8, .ref a9, .ref a10, .int 0])), (s0, .inr (4, [.int 0, .int 0, .int 0, .int 0, .ref s1, .ref s2, .ref s3]))] sz) := by
  refine jy_met (cc := cX11_table) (maxL := 3) (ret := (some .int)) (lv := [(0, .ref h0), (1, .int i1)]) (by decide) rfl (Nat.le_of_ble_eq_true rfl) rfl ?_
  intro p e s m below meth c F hr hlk hnm hN hA
  have hiX11 : ∀ w ∈ u_ws RX11 TX11 15, w ∈ ws_c_X11_table := fun w hw => List.mem_cons_of_mem _ (List.mem_append_left _ (List.mem_append_right _ hw))
  have hiX5 : ∀ w ∈ u_ws RX5 TX5 7, w ∈ ws_c_X11_table := fun w hw => List.mem_cons_of_mem _ (List.mem_append_right _ hw)
  refine jy_aload_n (pc' := 1) F 0 dX11_table_0 rfl rfl rfl ?_
  refine jy_get (pc' := 4) (C := RX11) (T := TX11) (N := 15) (ci := 10) (v := .ref s0) F hiX11 0 rfl rfl 5 (by decide) dX11_table_1 (List.mem_of_getElem? (i := 1) rfl) rfl rfl ?_
  refine jy_iload_n (pc' := 5) F 1 dX11_table_4 rfl rfl rfl ?_
  refine jy_callSi (pc' := 8) (jy_runV (As := [.int i1]) (b := s0) (q0 := 1) (ci := 4) (C := RX5) (T := TX5) (N := 7) (st := []) F hN (fun sz => c_X5_has l D k s0 s1 s2 s3 i1 sz ) (jy_cV F g_c_X11_table_c_X5_has rfl hdX5_has (List.mem_of_getElem? (i := 4) rfl) (List.mem_of_getElem? (i := 7) rfl) (List.mem_of_getElem? (i := 5) rfl) (List.mem_of_getElem? (i := 6) rfl) rfl rfl ⟨by decide, by decide⟩) rfl rfl [1] rfl (by decide) rfl rfl (Nat.le_of_ble_eq_true rfl) dX11_table_5 ⟨by decide, by decide⟩) rfl (fun r_1 e_2 => ?_)
  subst e_2
  refine jy_if_ne (pc' := 11) (tgt := 17) F dX11_table_8 (by decide) rfl (fun h => absurd h (by decide)) (fun _ => ?_)
  refine jy_aload_n (pc' := 12) F 0 dX11_table_11 rfl rfl rfl ?_
  refine jy_iconst (pc' := 13) (v := 1) F dX11_table_12 (by decide) rfl ?_
  refine jy_calli (pc' := 16) (cells' := 0) (slots' := 0) (wr := [(s0, .inr (4, [.int 0, .int 0, .int 0, .int 0, .ref s1, .ref s2, .ref s3]))]) hA [0] [1] rfl rfl (by decide) (by decide) (jy_runV (As := [.int 1]) (b := h0) (q0 := 0) (ci := 10) (C := RX11) (T := TX11) (N := 15) (st := []) F hN (fun sz => c_X11_refuse l D k h0 0 (.long 0) (.long 1) (.ref t0) (.ref a2) (.ref s0) (.ref a4) (.int 0) (.ref a5) (.ref a6) (.ref a7) (.ref a8) (.ref a9) (.ref a10) (.int 0) 1 sz ) (jy_cV F g_c_X11_table_c_X11_refuse rfl hdX11_refuse (List.mem_of_getElem? (i := 10) rfl) (List.mem_of_getElem? (i := 13) rfl) (List.mem_of_getElem? (i := 11) rfl) (List.mem_of_getElem? (i := 12) rfl) rfl rfl ⟨by decide, by decide⟩) rfl rfl [0] rfl (by decide) rfl rfl (Nat.le_of_ble_eq_true rfl) dX11_table_13 ⟨by decide, by decide⟩) rfl rfl rfl (fun r_6 u_4 e_5 => ?_)
  subst e_5
  refine jy_widen (cells' := 0) (slots' := 0) (by decide) (by decide) ?_
  exact jy_iret (v := (-1)) F hr hlk () (rfl) [] rfl (by decide) dX11_table_16
abbrev cX11_summary : ByteArray := prog_1_method_26_code
def yX11_summary : MethodName := ⟨RX11, "summary", "(III)I"⟩
theorem hdX11_summary : yX11_summary.cls ≠ "java/lang/invoke/MethodHandle" ∧ yX11_summary.cls ≠ "java/lang/invoke/VarHandle" ∧ (parseMethodDescriptor yX11_summary.desc).map (fun d => d.parameters.length) = some 3 := by decide +kernel
theorem dX11_summary_0 : decode cX11_summary 0 = .ok (.aload_n 0, 1) := by decide +kernel
theorem dX11_summary_1 : decode cX11_summary 1 = .ok (.aload_n 0, 1) := by decide +kernel
theorem dX11_summary_2 : decode cX11_summary 2 = .ok (.getfield 26, 3) := by decide +kernel
theorem dX11_summary_5 : decode cX11_summary 5 = .ok (.iload_n 1, 1) := by decide +kernel
theorem dX11_summary_6 : decode cX11_summary 6 = .ok (.invokevirtual 163, 3) := by decide +kernel
theorem dX11_summary_9 : decode cX11_summary 9 = .ok (.ifCond .eq 16, 3) := by decide +kernel
theorem dX11_summary_25 : decode cX11_summary 25 = .ok (.iconst 0, 1) := by decide +kernel
theorem dX11_summary_26 : decode cX11_summary 26 = .ok (.iload_n 1, 1) := by decide +kernel
theorem dX11_summary_27 : decode cX11_summary 27 = .ok (.iload_n 2, 1) := by decide +kernel
theorem dX11_summary_28 : decode cX11_summary 28 = .ok (.invokevirtual 278, 3) := by decide +kernel
theorem dX11_summary_31 : decode cX11_summary 31 = .ok (.istore 4, 2) := by decide +kernel
theorem dX11_summary_33 : decode cX11_summary 33 = .ok (.iload 4, 2) := by decide +kernel
theorem dX11_summary_35 : decode cX11_summary 35 = .ok (.ifCond .eq 10, 3) := by decide +kernel
theorem dX11_summary_38 : decode cX11_summary 38 = .ok (.aload_n 0, 1) := by decide +kernel
theorem dX11_summary_39 : decode cX11_summary 39 = .ok (.iload 4, 2) := by decide +kernel
theorem dX11_summary_41 : decode cX11_summary 41 = .ok (.invokevirtual 110, 3) := by decide +kernel
theorem dX11_summary_44 : decode cX11_summary 44 = .ok (.ireturn, 1) := by decide +kernel
def ws_c_X11_summary : List Cond := .code yX11_summary cX11_summary 6 (some .int) :: ([.fieldLink "NestedChecker" 26 "NestedChecker" "live" "LNestedChecker$Setting;", .code ⟨"NestedChecker$Setting", "has", "(I)Z"⟩ cX5_has 2 (some .boolean), .fieldLink "NestedChecker$Setting" 38 "NestedChecker$Setting" "automata" "I", .initialized "NestedChecker$Setting", .instanceMethod ⟨"NestedChecker$Setting", "has", "(I)Z"⟩, .selects "NestedChecker$Setting" ⟨"NestedChecker$Setting", "has", "(I)Z"⟩ ⟨"NestedChecker$Setting", "has", "(I)Z"⟩, .methodLink "NestedChecker" 163 ⟨"NestedChecker$Setting", "has", "(I)Z"⟩, .code ⟨"NestedChecker", "summaryRefusal", "(ZII)I"⟩ cX11_summaryRefusal 5 (some .int), .initialized "NestedChecker", .instanceMethod ⟨"NestedChecker", "summaryRefusal", "(ZII)I"⟩, .selects "NestedChecker" ⟨"NestedChecker", "summaryRefusal", "(ZII)I"⟩ ⟨"NestedChecker", "summaryRefusal", "(ZII)I"⟩, .methodLink "NestedChecker" 278 ⟨"NestedChecker", "summaryRefusal", "(ZII)I"⟩, .code ⟨"NestedChecker", "refuse", "(I)I"⟩ cX11_refuse 2 (some .int), .fieldLink "NestedChecker" 72 "NestedChecker" "lastStatus" "I", .instanceMethod ⟨"NestedChecker", "refuse", "(I)I"⟩, .selects "NestedChecker" ⟨"NestedChecker", "refuse", "(I)I"⟩ ⟨"NestedChecker", "refuse", "(I)I"⟩, .methodLink "NestedChecker" 110 ⟨"NestedChecker", "refuse", "(I)I"⟩] ++ wsX110 ++ wsX50)
set_option maxRecDepth 20000 in
theorem g_c_X11_summary_c_X5_has : GoodIn ws_c_X11_summary ws_c_X5_has := goodIn_r _ [2, 3, 33, 34, 35, 36, 37, 38, 39] (by decide +kernel) (by decide +kernel)
set_option maxRecDepth 20000 in
theorem g_c_X11_summary_c_X11_summaryRefusal : GoodIn ws_c_X11_summary ws_c_X11_summaryRefusal := goodIn_r _ [8] (by decide +kernel) (by decide +kernel)
set_option maxRecDepth 20000 in
theorem g_c_X11_summary_c_X11_refuse : GoodIn ws_c_X11_summary ws_c_X11_refuse := goodIn_r _ [13, 14, 18, 19, 20, 21, 22, 23, 24, 25, 26, 27, 28, 29, 30, 31, 32] (by decide +kernel) (by decide +kernel)
set_option maxHeartbeats 4000000 in
set_option maxRecDepth 100000 in
theorem c_X11_summary (l : Launch) (D : va_G) (k : jK) (h0 : Nat) (a2 : Nat) (a4 : Nat) (a5 : Nat) (a6 : Nat) (a7 : Nat) (a8 : Nat) (a9 : Nat) (a10 : Nat) (t0 : Nat) (s0 : Nat) (s1 : Nat) (s2 : Nat) (s3 : Nat) (i1 : Int32) (i2 : Int32) (i3 : Int32) (sz : Nat)  : Met l yX11_summary ws_c_X11_summary ({ frames := 1, cells := 0, slots := 0, locals := 24 }) (jy_P [.ref h0, .int i1, .int i2, .int i3] D vwCl (jT k) jW [(h0, .inr (10, [.int 0, .long 0, .long 1, .ref t0, .ref a2, .ref s0, .ref a4, .int 0, .ref a5, .ref a6, .ref a7, .ref a8, .ref a9, .ref a10, .int 0])), (s0, .inr (4, [.int 0, .int 0, .int 0, .int 0, .ref s1, .ref s2, .ref s3]))] sz) (va_Qi (fun (r : Int32) (u : Unit) => r = -1) (jy_B D vwCl (va_A [(h0, .inr (10, [.int 0, .long 0, .long 1, .ref t0, .ref a2, .ref s0, .ref a4, .int 0, .ref a5, .ref a6, .ref a7, .ref a8, .ref a9, .ref a10, .int 0])), (s0, .inr (4, [.int 0, .int 0, .int 0, .int 0, .ref s1, .ref s2, .ref s3]))] sz) (fun (u : Unit) => [])) (va_A [(h0, .inr (10, [.int 0, .long 0, .long 1, .ref t0, .ref a2, .ref s0, .ref a4, .int 0, .ref a5, .ref a6, .ref a7, .ref a8, .ref a9, .ref a10, .int 0])), (s0, .inr (4, [.int 0, .int 0, .int 0, .int 0, .ref s1, .ref s2, .ref s3]))] sz)) 0 0 (va_A [(h0, .inr (10, [.int 0, .long 0, .long 1, .ref t0, .ref a2, .ref s0, .ref a4, .int 0, .ref a5, .ref a6, .ref a7, .ref a8, .ref a9, .ref a10, .int 0])), (s0, .inr (4, [.int 0, .int 0, .int 0, .int 0, .ref s1, .ref s2, .ref s3]))] sz) := by
  refine jy_met (cc := cX11_summary) (maxL := 6) (ret := (some .int)) (lv := [(0, .ref h0), (1, .int i1), (2, .int i2), (3, .int i3)]) (by decide) rfl (Nat.le_of_ble_eq_true rfl) rfl ?_
  intro p e s m below meth c F hr hlk hnm hN hA
  have hiX11 : ∀ w ∈ u_ws RX11 TX11 15, w ∈ ws_c_X11_summary := fun w hw => List.mem_cons_of_mem _ (List.mem_append_left _ (List.mem_append_right _ hw))
  have hiX5 : ∀ w ∈ u_ws RX5 TX5 7, w ∈ ws_c_X11_summary := fun w hw => List.mem_cons_of_mem _ (List.mem_append_right _ hw)
  refine jy_aload_n (pc' := 1) F 0 dX11_summary_0 rfl rfl rfl ?_
  refine jy_aload_n (pc' := 2) F 0 dX11_summary_1 rfl rfl rfl ?_
  refine jy_get (pc' := 5) (C := RX11) (T := TX11) (N := 15) (ci := 10) (v := .ref s0) F hiX11 0 rfl rfl 5 (by decide) dX11_summary_2 (List.mem_of_getElem? (i := 1) rfl) rfl rfl ?_
  refine jy_iload_n (pc' := 6) F 1 dX11_summary_5 rfl rfl rfl ?_
  refine jy_callSi (pc' := 9) (jy_runV (As := [.int i1]) (b := s0) (q0 := 1) (ci := 4) (C := RX5) (T := TX5) (N := 7) (st := [.ref h0]) F hN (fun sz => c_X5_has l D k s0 s1 s2 s3 i1 sz ) (jy_cV F g_c_X11_summary_c_X5_has rfl hdX5_has (List.mem_of_getElem? (i := 4) rfl) (List.mem_of_getElem? (i := 7) rfl) (List.mem_of_getElem? (i := 5) rfl) (List.mem_of_getElem? (i := 6) rfl) rfl rfl ⟨by decide, by decide⟩) rfl rfl [1] rfl (by decide) rfl rfl (Nat.le_of_ble_eq_true rfl) dX11_summary_6 ⟨by decide, by decide⟩) rfl (fun r_1 e_2 => ?_)
  subst e_2
  refine jy_if_eq (pc' := 12) (tgt := 25) F dX11_summary_9 (by decide) rfl (fun _ => ?_) (fun h => absurd h (by decide))
  refine jy_iconst (pc' := 26) (v := 0) F dX11_summary_25 (by decide) rfl ?_
  refine jy_iload_n (pc' := 27) F 1 dX11_summary_26 rfl rfl rfl ?_
  refine jy_iload_n (pc' := 28) F 2 dX11_summary_27 rfl rfl rfl ?_
  refine jy_callSi (pc' := 31) (jy_runV (As := [.int 0, .int i1, .int i2]) (b := h0) (q0 := 0) (ci := 10) (C := RX11) (T := TX11) (N := 15) (st := []) F hN (fun sz => c_X11_summaryRefusal l D k h0 a2 a4 a5 a6 a7 a8 a9 a10 t0 s0 i1 i2 sz ) (jy_cV F g_c_X11_summary_c_X11_summaryRefusal rfl hdX11_summaryRefusal (List.mem_of_getElem? (i := 9) rfl) (List.mem_of_getElem? (i := 12) rfl) (List.mem_of_getElem? (i := 10) rfl) (List.mem_of_getElem? (i := 11) rfl) rfl rfl ⟨by decide, by decide⟩) rfl rfl [0] rfl (by decide) rfl rfl (Nat.le_of_ble_eq_true rfl) dX11_summary_28 ⟨by decide, by decide⟩) rfl (fun r_4 e_5 => ?_)
  subst e_5
  refine jy_istore (pc' := 33) (lv' := [(4, .int 1), (0, .ref h0), (1, .int i1), (2, .int i2), (3, .int i3)]) F dX11_summary_31 (by decide) rfl rfl ?_
  refine jy_iload (pc' := 35) F 0 dX11_summary_33 rfl rfl ?_
  refine jy_if_eq (pc' := 38) (tgt := 45) F dX11_summary_35 (by decide) rfl (fun h => absurd h (by decide)) (fun _ => ?_)
  refine jy_aload_n (pc' := 39) F 1 dX11_summary_38 rfl rfl rfl ?_
  refine jy_iload (pc' := 41) F 0 dX11_summary_39 rfl rfl ?_
  refine jy_calli (pc' := 44) (cells' := 0) (slots' := 0) (wr := [(s0, .inr (4, [.int 0, .int 0, .int 0, .int 0, .ref s1, .ref s2, .ref s3]))]) hA [0] [1] rfl rfl (by decide) (by decide) (jy_runV (As := [.int 1]) (b := h0) (q0 := 0) (ci := 10) (C := RX11) (T := TX11) (N := 15) (st := []) F hN (fun sz => c_X11_refuse l D k h0 0 (.long 0) (.long 1) (.ref t0) (.ref a2) (.ref s0) (.ref a4) (.int 0) (.ref a5) (.ref a6) (.ref a7) (.ref a8) (.ref a9) (.ref a10) (.int 0) 1 sz ) (jy_cV F g_c_X11_summary_c_X11_refuse rfl hdX11_refuse (List.mem_of_getElem? (i := 9) rfl) (List.mem_of_getElem? (i := 17) rfl) (List.mem_of_getElem? (i := 15) rfl) (List.mem_of_getElem? (i := 16) rfl) rfl rfl ⟨by decide, by decide⟩) rfl rfl [0] rfl (by decide) rfl rfl (Nat.le_of_ble_eq_true rfl) dX11_summary_41 ⟨by decide, by decide⟩) rfl rfl rfl (fun r_9 u_7 e_8 => ?_)
  subst e_8
  refine jy_widen (cells' := 0) (slots' := 0) (by decide) (by decide) ?_
  exact jy_iret (v := (-1)) F hr hlk () (rfl) [] rfl (by decide) dX11_summary_44
abbrev cX11_next : ByteArray := prog_1_method_27_code
def yX11_next : MethodName := ⟨RX11, "next", "(III)I"⟩
theorem hdX11_next : yX11_next.cls ≠ "java/lang/invoke/MethodHandle" ∧ yX11_next.cls ≠ "java/lang/invoke/VarHandle" ∧ (parseMethodDescriptor yX11_next.desc).map (fun d => d.parameters.length) = some 3 := by decide +kernel
theorem dX11_next_0 : decode cX11_next 0 = .ok (.aload_n 0, 1) := by decide +kernel
theorem dX11_next_1 : decode cX11_next 1 = .ok (.aload_n 0, 1) := by decide +kernel
theorem dX11_next_2 : decode cX11_next 2 = .ok (.getfield 26, 3) := by decide +kernel
theorem dX11_next_5 : decode cX11_next 5 = .ok (.iload_n 1, 1) := by decide +kernel
theorem dX11_next_6 : decode cX11_next 6 = .ok (.invokevirtual 163, 3) := by decide +kernel
theorem dX11_next_9 : decode cX11_next 9 = .ok (.ifCond .eq 18, 3) := by decide +kernel
theorem dX11_next_27 : decode cX11_next 27 = .ok (.iconst 0, 1) := by decide +kernel
theorem dX11_next_28 : decode cX11_next 28 = .ok (.iload_n 1, 1) := by decide +kernel
theorem dX11_next_29 : decode cX11_next 29 = .ok (.iload_n 2, 1) := by decide +kernel
theorem dX11_next_30 : decode cX11_next 30 = .ok (.invokevirtual 278, 3) := by decide +kernel
theorem dX11_next_33 : decode cX11_next 33 = .ok (.istore 4, 2) := by decide +kernel
theorem dX11_next_35 : decode cX11_next 35 = .ok (.iload 4, 2) := by decide +kernel
theorem dX11_next_37 : decode cX11_next 37 = .ok (.ifCond .eq 10, 3) := by decide +kernel
theorem dX11_next_40 : decode cX11_next 40 = .ok (.aload_n 0, 1) := by decide +kernel
theorem dX11_next_41 : decode cX11_next 41 = .ok (.iload 4, 2) := by decide +kernel
theorem dX11_next_43 : decode cX11_next 43 = .ok (.invokevirtual 110, 3) := by decide +kernel
theorem dX11_next_46 : decode cX11_next 46 = .ok (.ireturn, 1) := by decide +kernel
def ws_c_X11_next : List Cond := .code yX11_next cX11_next 5 (some .int) :: ([.fieldLink "NestedChecker" 26 "NestedChecker" "live" "LNestedChecker$Setting;", .code ⟨"NestedChecker$Setting", "has", "(I)Z"⟩ cX5_has 2 (some .boolean), .fieldLink "NestedChecker$Setting" 38 "NestedChecker$Setting" "automata" "I", .initialized "NestedChecker$Setting", .instanceMethod ⟨"NestedChecker$Setting", "has", "(I)Z"⟩, .selects "NestedChecker$Setting" ⟨"NestedChecker$Setting", "has", "(I)Z"⟩ ⟨"NestedChecker$Setting", "has", "(I)Z"⟩, .methodLink "NestedChecker" 163 ⟨"NestedChecker$Setting", "has", "(I)Z"⟩, .code ⟨"NestedChecker", "summaryRefusal", "(ZII)I"⟩ cX11_summaryRefusal 5 (some .int), .initialized "NestedChecker", .instanceMethod ⟨"NestedChecker", "summaryRefusal", "(ZII)I"⟩, .selects "NestedChecker" ⟨"NestedChecker", "summaryRefusal", "(ZII)I"⟩ ⟨"NestedChecker", "summaryRefusal", "(ZII)I"⟩, .methodLink "NestedChecker" 278 ⟨"NestedChecker", "summaryRefusal", "(ZII)I"⟩, .code ⟨"NestedChecker", "refuse", "(I)I"⟩ cX11_refuse 2 (some .int), .fieldLink "NestedChecker" 72 "NestedChecker" "lastStatus" "I", .instanceMethod ⟨"NestedChecker", "refuse", "(I)I"⟩, .selects "NestedChecker" ⟨"NestedChecker", "refuse", "(I)I"⟩ ⟨"NestedChecker", "refuse", "(I)I"⟩, .methodLink "NestedChecker" 110 ⟨"NestedChecker", "refuse", "(I)I"⟩] ++ wsX110 ++ wsX50)
set_option maxRecDepth 20000 in
theorem g_c_X11_next_c_X5_has : GoodIn ws_c_X11_next ws_c_X5_has := goodIn_r _ [2, 3, 33, 34, 35, 36, 37, 38, 39] (by decide +kernel) (by decide +kernel)
set_option maxRecDepth 20000 in
theorem g_c_X11_next_c_X11_summaryRefusal : GoodIn ws_c_X11_next ws_c_X11_summaryRefusal := goodIn_r _ [8] (by decide +kernel) (by decide +kernel)
set_option maxRecDepth 20000 in
theorem g_c_X11_next_c_X11_refuse : GoodIn ws_c_X11_next ws_c_X11_refuse := goodIn_r _ [13, 14, 18, 19, 20, 21, 22, 23, 24, 25, 26, 27, 28, 29, 30, 31, 32] (by decide +kernel) (by decide +kernel)
set_option maxHeartbeats 4000000 in
set_option maxRecDepth 100000 in
theorem c_X11_next (l : Launch) (D : va_G) (k : jK) (h0 : Nat) (a2 : Nat) (a4 : Nat) (a5 : Nat) (a6 : Nat) (a7 : Nat) (a8 : Nat) (a9 : Nat) (a10 : Nat) (t0 : Nat) (s0 : Nat) (s1 : Nat) (s2 : Nat) (s3 : Nat) (i1 : Int32) (i2 : Int32) (i3 : Int32) (sz : Nat)  : Met l yX11_next ws_c_X11_next ({ frames := 1, cells := 0, slots := 0, locals := 24 }) (jy_P [.ref h0, .int i1, .int i2, .int i3] D vwCl (jT k) jW [(h0, .inr (10, [.int 0, .long 0, .long 1, .ref t0, .ref a2, .ref s0, .ref a4, .int 0, .ref a5, .ref a6, .ref a7, .ref a8, .ref a9, .ref a10, .int 0])), (s0, .inr (4, [.int 0, .int 0, .int 0, .int 0, .ref s1, .ref s2, .ref s3]))] sz) (va_Qi (fun (r : Int32) (u : Unit) => r = -1) (jy_B D vwCl (va_A [(h0, .inr (10, [.int 0, .long 0, .long 1, .ref t0, .ref a2, .ref s0, .ref a4, .int 0, .ref a5, .ref a6, .ref a7, .ref a8, .ref a9, .ref a10, .int 0])), (s0, .inr (4, [.int 0, .int 0, .int 0, .int 0, .ref s1, .ref s2, .ref s3]))] sz) (fun (u : Unit) => [])) (va_A [(h0, .inr (10, [.int 0, .long 0, .long 1, .ref t0, .ref a2, .ref s0, .ref a4, .int 0, .ref a5, .ref a6, .ref a7, .ref a8, .ref a9, .ref a10, .int 0])), (s0, .inr (4, [.int 0, .int 0, .int 0, .int 0, .ref s1, .ref s2, .ref s3]))] sz)) 0 0 (va_A [(h0, .inr (10, [.int 0, .long 0, .long 1, .ref t0, .ref a2, .ref s0, .ref a4, .int 0, .ref a5, .ref a6, .ref a7, .ref a8, .ref a9, .ref a10, .int 0])), (s0, .inr (4, [.int 0, .int 0, .int 0, .int 0, .ref s1, .ref s2, .ref s3]))] sz) := by
  refine jy_met (cc := cX11_next) (maxL := 5) (ret := (some .int)) (lv := [(0, .ref h0), (1, .int i1), (2, .int i2), (3, .int i3)]) (by decide) rfl (Nat.le_of_ble_eq_true rfl) rfl ?_
  intro p e s m below meth c F hr hlk hnm hN hA
  have hiX11 : ∀ w ∈ u_ws RX11 TX11 15, w ∈ ws_c_X11_next := fun w hw => List.mem_cons_of_mem _ (List.mem_append_left _ (List.mem_append_right _ hw))
  have hiX5 : ∀ w ∈ u_ws RX5 TX5 7, w ∈ ws_c_X11_next := fun w hw => List.mem_cons_of_mem _ (List.mem_append_right _ hw)
  refine jy_aload_n (pc' := 1) F 0 dX11_next_0 rfl rfl rfl ?_
  refine jy_aload_n (pc' := 2) F 0 dX11_next_1 rfl rfl rfl ?_
  refine jy_get (pc' := 5) (C := RX11) (T := TX11) (N := 15) (ci := 10) (v := .ref s0) F hiX11 0 rfl rfl 5 (by decide) dX11_next_2 (List.mem_of_getElem? (i := 1) rfl) rfl rfl ?_
  refine jy_iload_n (pc' := 6) F 1 dX11_next_5 rfl rfl rfl ?_
  refine jy_callSi (pc' := 9) (jy_runV (As := [.int i1]) (b := s0) (q0 := 1) (ci := 4) (C := RX5) (T := TX5) (N := 7) (st := [.ref h0]) F hN (fun sz => c_X5_has l D k s0 s1 s2 s3 i1 sz ) (jy_cV F g_c_X11_next_c_X5_has rfl hdX5_has (List.mem_of_getElem? (i := 4) rfl) (List.mem_of_getElem? (i := 7) rfl) (List.mem_of_getElem? (i := 5) rfl) (List.mem_of_getElem? (i := 6) rfl) rfl rfl ⟨by decide, by decide⟩) rfl rfl [1] rfl (by decide) rfl rfl (Nat.le_of_ble_eq_true rfl) dX11_next_6 ⟨by decide, by decide⟩) rfl (fun r_1 e_2 => ?_)
  subst e_2
  refine jy_if_eq (pc' := 12) (tgt := 27) F dX11_next_9 (by decide) rfl (fun _ => ?_) (fun h => absurd h (by decide))
  refine jy_iconst (pc' := 28) (v := 0) F dX11_next_27 (by decide) rfl ?_
  refine jy_iload_n (pc' := 29) F 1 dX11_next_28 rfl rfl rfl ?_
  refine jy_iload_n (pc' := 30) F 2 dX11_next_29 rfl rfl rfl ?_
  refine jy_callSi (pc' := 33) (jy_runV (As := [.int 0, .int i1, .int i2]) (b := h0) (q0 := 0) (ci := 10) (C := RX11) (T := TX11) (N := 15) (st := []) F hN (fun sz => c_X11_summaryRefusal l D k h0 a2 a4 a5 a6 a7 a8 a9 a10 t0 s0 i1 i2 sz ) (jy_cV F g_c_X11_next_c_X11_summaryRefusal rfl hdX11_summaryRefusal (List.mem_of_getElem? (i := 9) rfl) (List.mem_of_getElem? (i := 12) rfl) (List.mem_of_getElem? (i := 10) rfl) (List.mem_of_getElem? (i := 11) rfl) rfl rfl ⟨by decide, by decide⟩) rfl rfl [0] rfl (by decide) rfl rfl (Nat.le_of_ble_eq_true rfl) dX11_next_30 ⟨by decide, by decide⟩) rfl (fun r_4 e_5 => ?_)
  subst e_5
  refine jy_istore (pc' := 35) (lv' := [(4, .int 1), (0, .ref h0), (1, .int i1), (2, .int i2), (3, .int i3)]) F dX11_next_33 (by decide) rfl rfl ?_
  refine jy_iload (pc' := 37) F 0 dX11_next_35 rfl rfl ?_
  refine jy_if_eq (pc' := 40) (tgt := 47) F dX11_next_37 (by decide) rfl (fun h => absurd h (by decide)) (fun _ => ?_)
  refine jy_aload_n (pc' := 41) F 1 dX11_next_40 rfl rfl rfl ?_
  refine jy_iload (pc' := 43) F 0 dX11_next_41 rfl rfl ?_
  refine jy_calli (pc' := 46) (cells' := 0) (slots' := 0) (wr := [(s0, .inr (4, [.int 0, .int 0, .int 0, .int 0, .ref s1, .ref s2, .ref s3]))]) hA [0] [1] rfl rfl (by decide) (by decide) (jy_runV (As := [.int 1]) (b := h0) (q0 := 0) (ci := 10) (C := RX11) (T := TX11) (N := 15) (st := []) F hN (fun sz => c_X11_refuse l D k h0 0 (.long 0) (.long 1) (.ref t0) (.ref a2) (.ref s0) (.ref a4) (.int 0) (.ref a5) (.ref a6) (.ref a7) (.ref a8) (.ref a9) (.ref a10) (.int 0) 1 sz ) (jy_cV F g_c_X11_next_c_X11_refuse rfl hdX11_refuse (List.mem_of_getElem? (i := 9) rfl) (List.mem_of_getElem? (i := 17) rfl) (List.mem_of_getElem? (i := 15) rfl) (List.mem_of_getElem? (i := 16) rfl) rfl rfl ⟨by decide, by decide⟩) rfl rfl [0] rfl (by decide) rfl rfl (Nat.le_of_ble_eq_true rfl) dX11_next_43 ⟨by decide, by decide⟩) rfl rfl rfl (fun r_9 u_7 e_8 => ?_)
  subst e_8
  refine jy_widen (cells' := 0) (slots' := 0) (by decide) (by decide) ?_
  exact jy_iret (v := (-1)) F hr hlk () (rfl) [] rfl (by decide) dX11_next_46
abbrev cX11_nextBack : ByteArray := prog_1_method_28_code
def yX11_nextBack : MethodName := ⟨RX11, "nextBack", "(IIIII)I"⟩
theorem hdX11_nextBack : yX11_nextBack.cls ≠ "java/lang/invoke/MethodHandle" ∧ yX11_nextBack.cls ≠ "java/lang/invoke/VarHandle" ∧ (parseMethodDescriptor yX11_nextBack.desc).map (fun d => d.parameters.length) = some 5 := by decide +kernel
theorem dX11_nextBack_0 : decode cX11_nextBack 0 = .ok (.aload_n 0, 1) := by decide +kernel
theorem dX11_nextBack_1 : decode cX11_nextBack 1 = .ok (.getfield 26, 3) := by decide +kernel
theorem dX11_nextBack_4 : decode cX11_nextBack 4 = .ok (.iload_n 1, 1) := by decide +kernel
theorem dX11_nextBack_5 : decode cX11_nextBack 5 = .ok (.invokevirtual 163, 3) := by decide +kernel
theorem dX11_nextBack_8 : decode cX11_nextBack 8 = .ok (.ifCond .eq 31, 3) := by decide +kernel
theorem dX11_nextBack_39 : decode cX11_nextBack 39 = .ok (.iconst 0, 1) := by decide +kernel
theorem dX11_nextBack_40 : decode cX11_nextBack 40 = .ok (.istore 6, 2) := by decide +kernel
theorem dX11_nextBack_42 : decode cX11_nextBack 42 = .ok (.aload_n 0, 1) := by decide +kernel
theorem dX11_nextBack_43 : decode cX11_nextBack 43 = .ok (.iload 6, 2) := by decide +kernel
theorem dX11_nextBack_45 : decode cX11_nextBack 45 = .ok (.iload_n 1, 1) := by decide +kernel
theorem dX11_nextBack_46 : decode cX11_nextBack 46 = .ok (.iload_n 2, 1) := by decide +kernel
theorem dX11_nextBack_47 : decode cX11_nextBack 47 = .ok (.invokevirtual 278, 3) := by decide +kernel
theorem dX11_nextBack_50 : decode cX11_nextBack 50 = .ok (.istore 7, 2) := by decide +kernel
theorem dX11_nextBack_52 : decode cX11_nextBack 52 = .ok (.iload 7, 2) := by decide +kernel
theorem dX11_nextBack_54 : decode cX11_nextBack 54 = .ok (.ifCond .ne 13, 3) := by decide +kernel
theorem dX11_nextBack_67 : decode cX11_nextBack 67 = .ok (.iload 7, 2) := by decide +kernel
theorem dX11_nextBack_69 : decode cX11_nextBack 69 = .ok (.ifCond .eq 10, 3) := by decide +kernel
theorem dX11_nextBack_72 : decode cX11_nextBack 72 = .ok (.aload_n 0, 1) := by decide +kernel
theorem dX11_nextBack_73 : decode cX11_nextBack 73 = .ok (.iload 7, 2) := by decide +kernel
theorem dX11_nextBack_75 : decode cX11_nextBack 75 = .ok (.invokevirtual 110, 3) := by decide +kernel
theorem dX11_nextBack_78 : decode cX11_nextBack 78 = .ok (.ireturn, 1) := by decide +kernel
def ws_c_X11_nextBack : List Cond := .code yX11_nextBack cX11_nextBack 10 (some .int) :: ([.fieldLink "NestedChecker" 26 "NestedChecker" "live" "LNestedChecker$Setting;", .code ⟨"NestedChecker$Setting", "has", "(I)Z"⟩ cX5_has 2 (some .boolean), .fieldLink "NestedChecker$Setting" 38 "NestedChecker$Setting" "automata" "I", .initialized "NestedChecker$Setting", .instanceMethod ⟨"NestedChecker$Setting", "has", "(I)Z"⟩, .selects "NestedChecker$Setting" ⟨"NestedChecker$Setting", "has", "(I)Z"⟩ ⟨"NestedChecker$Setting", "has", "(I)Z"⟩, .methodLink "NestedChecker" 163 ⟨"NestedChecker$Setting", "has", "(I)Z"⟩, .code ⟨"NestedChecker", "summaryRefusal", "(ZII)I"⟩ cX11_summaryRefusal 5 (some .int), .initialized "NestedChecker", .instanceMethod ⟨"NestedChecker", "summaryRefusal", "(ZII)I"⟩, .selects "NestedChecker" ⟨"NestedChecker", "summaryRefusal", "(ZII)I"⟩ ⟨"NestedChecker", "summaryRefusal", "(ZII)I"⟩, .methodLink "NestedChecker" 278 ⟨"NestedChecker", "summaryRefusal", "(ZII)I"⟩, .code ⟨"NestedChecker", "refuse", "(I)I"⟩ cX11_refuse 2 (some .int), .fieldLink "NestedChecker" 72 "NestedChecker" "lastStatus" "I", .instanceMethod ⟨"NestedChecker", "refuse", "(I)I"⟩, .selects "NestedChecker" ⟨"NestedChecker", "refuse", "(I)I"⟩ ⟨"NestedChecker", "refuse", "(I)I"⟩, .methodLink "NestedChecker" 110 ⟨"NestedChecker", "refuse", "(I)I"⟩] ++ wsX110 ++ wsX50)
set_option maxRecDepth 20000 in
theorem g_c_X11_nextBack_c_X5_has : GoodIn ws_c_X11_nextBack ws_c_X5_has := goodIn_r _ [2, 3, 33, 34, 35, 36, 37, 38, 39] (by decide +kernel) (by decide +kernel)
set_option maxRecDepth 20000 in
theorem g_c_X11_nextBack_c_X11_summaryRefusal : GoodIn ws_c_X11_nextBack ws_c_X11_summaryRefusal := goodIn_r _ [8] (by decide +kernel) (by decide +kernel)
set_option maxRecDepth 20000 in
theorem g_c_X11_nextBack_c_X11_refuse : GoodIn ws_c_X11_nextBack ws_c_X11_refuse := goodIn_r _ [13, 14, 18, 19, 20, 21, 22, 23, 24, 25, 26, 27, 28, 29, 30, 31, 32] (by decide +kernel) (by decide +kernel)
set_option maxHeartbeats 4000000 in
set_option maxRecDepth 100000 in
theorem c_X11_nextBack (l : Launch) (D : va_G) (k : jK) (h0 : Nat) (a2 : Nat) (a4 : Nat) (a5 : Nat) (a6 : Nat) (a7 : Nat) (a8 : Nat) (a9 : Nat) (a10 : Nat) (t0 : Nat) (s0 : Nat) (s1 : Nat) (s2 : Nat) (s3 : Nat) (i1 : Int32) (i2 : Int32) (i3 : Int32) (i4 : Int32) (i5 : Int32) (sz : Nat)  : Met l yX11_nextBack ws_c_X11_nextBack ({ frames := 1, cells := 0, slots := 0, locals := 24 }) (jy_P [.ref h0, .int i1, .int i2, .int i3, .int i4, .int i5] D vwCl (jT k) jW [(h0, .inr (10, [.int 0, .long 0, .long 1, .ref t0, .ref a2, .ref s0, .ref a4, .int 0, .ref a5, .ref a6, .ref a7, .ref a8, .ref a9, .ref a10, .int 0])), (s0, .inr (4, [.int 0, .int 0, .int 0, .int 0, .ref s1, .ref s2, .ref s3]))] sz) (va_Qi (fun (r : Int32) (u : Unit) => r = -1) (jy_B D vwCl (va_A [(h0, .inr (10, [.int 0, .long 0, .long 1, .ref t0, .ref a2, .ref s0, .ref a4, .int 0, .ref a5, .ref a6, .ref a7, .ref a8, .ref a9, .ref a10, .int 0])), (s0, .inr (4, [.int 0, .int 0, .int 0, .int 0, .ref s1, .ref s2, .ref s3]))] sz) (fun (u : Unit) => [])) (va_A [(h0, .inr (10, [.int 0, .long 0, .long 1, .ref t0, .ref a2, .ref s0, .ref a4, .int 0, .ref a5, .ref a6, .ref a7, .ref a8, .ref a9, .ref a10, .int 0])), (s0, .inr (4, [.int 0, .int 0, .int 0, .int 0, .ref s1, .ref s2, .ref s3]))] sz)) 0 0 (va_A [(h0, .inr (10, [.int 0, .long 0, .long 1, .ref t0, .ref a2, .ref s0, .ref a4, .int 0, .ref a5, .ref a6, .ref a7, .ref a8, .ref a9, .ref a10, .int 0])), (s0, .inr (4, [.int 0, .int 0, .int 0, .int 0, .ref s1, .ref s2, .ref s3]))] sz) := by
  refine jy_met (cc := cX11_nextBack) (maxL := 10) (ret := (some .int)) (lv := [(0, .ref h0), (1, .int i1), (2, .int i2), (3, .int i3), (4, .int i4), (5, .int i5)]) (by decide) rfl (Nat.le_of_ble_eq_true rfl) rfl ?_
  intro p e s m below meth c F hr hlk hnm hN hA
  have hiX11 : ∀ w ∈ u_ws RX11 TX11 15, w ∈ ws_c_X11_nextBack := fun w hw => List.mem_cons_of_mem _ (List.mem_append_left _ (List.mem_append_right _ hw))
  have hiX5 : ∀ w ∈ u_ws RX5 TX5 7, w ∈ ws_c_X11_nextBack := fun w hw => List.mem_cons_of_mem _ (List.mem_append_right _ hw)
  refine jy_aload_n (pc' := 1) F 0 dX11_nextBack_0 rfl rfl rfl ?_
  refine jy_get (pc' := 4) (C := RX11) (T := TX11) (N := 15) (ci := 10) (v := .ref s0) F hiX11 0 rfl rfl 5 (by decide) dX11_nextBack_1 (List.mem_of_getElem? (i := 1) rfl) rfl rfl ?_
  refine jy_iload_n (pc' := 5) F 1 dX11_nextBack_4 rfl rfl rfl ?_
  refine jy_callSi (pc' := 8) (jy_runV (As := [.int i1]) (b := s0) (q0 := 1) (ci := 4) (C := RX5) (T := TX5) (N := 7) (st := []) F hN (fun sz => c_X5_has l D k s0 s1 s2 s3 i1 sz ) (jy_cV F g_c_X11_nextBack_c_X5_has rfl hdX5_has (List.mem_of_getElem? (i := 4) rfl) (List.mem_of_getElem? (i := 7) rfl) (List.mem_of_getElem? (i := 5) rfl) (List.mem_of_getElem? (i := 6) rfl) rfl rfl ⟨by decide, by decide⟩) rfl rfl [1] rfl (by decide) rfl rfl (Nat.le_of_ble_eq_true rfl) dX11_nextBack_5 ⟨by decide, by decide⟩) rfl (fun r_1 e_2 => ?_)
  subst e_2
  refine jy_if_eq (pc' := 11) (tgt := 39) F dX11_nextBack_8 (by decide) rfl (fun _ => ?_) (fun h => absurd h (by decide))
  refine jy_iconst (pc' := 40) (v := 0) F dX11_nextBack_39 (by decide) rfl ?_
  refine jy_istore (pc' := 42) (lv' := [(6, .int 0), (0, .ref h0), (1, .int i1), (2, .int i2), (3, .int i3), (4, .int i4), (5, .int i5)]) F dX11_nextBack_40 (by decide) rfl rfl ?_
  refine jy_aload_n (pc' := 43) F 1 dX11_nextBack_42 rfl rfl rfl ?_
  refine jy_iload (pc' := 45) F 0 dX11_nextBack_43 rfl rfl ?_
  refine jy_iload_n (pc' := 46) F 2 dX11_nextBack_45 rfl rfl rfl ?_
  refine jy_iload_n (pc' := 47) F 3 dX11_nextBack_46 rfl rfl rfl ?_
  refine jy_callSi (pc' := 50) (jy_runV (As := [.int 0, .int i1, .int i2]) (b := h0) (q0 := 0) (ci := 10) (C := RX11) (T := TX11) (N := 15) (st := []) F hN (fun sz => c_X11_summaryRefusal l D k h0 a2 a4 a5 a6 a7 a8 a9 a10 t0 s0 i1 i2 sz ) (jy_cV F g_c_X11_nextBack_c_X11_summaryRefusal rfl hdX11_summaryRefusal (List.mem_of_getElem? (i := 9) rfl) (List.mem_of_getElem? (i := 12) rfl) (List.mem_of_getElem? (i := 10) rfl) (List.mem_of_getElem? (i := 11) rfl) rfl rfl ⟨by decide, by decide⟩) rfl rfl [0] rfl (by decide) rfl rfl (Nat.le_of_ble_eq_true rfl) dX11_nextBack_47 ⟨by decide, by decide⟩) rfl (fun r_4 e_5 => ?_)
  subst e_5
  refine jy_istore (pc' := 52) (lv' := [(7, .int 1), (6, .int 0), (0, .ref h0), (1, .int i1), (2, .int i2), (3, .int i3), (4, .int i4), (5, .int i5)]) F dX11_nextBack_50 (by decide) rfl rfl ?_
  refine jy_iload (pc' := 54) F 0 dX11_nextBack_52 rfl rfl ?_
  refine jy_if_ne (pc' := 57) (tgt := 67) F dX11_nextBack_54 (by decide) rfl (fun _ => ?_) (fun h => absurd h (by decide))
  refine jy_iload (pc' := 69) F 0 dX11_nextBack_67 rfl rfl ?_
  refine jy_if_eq (pc' := 72) (tgt := 79) F dX11_nextBack_69 (by decide) rfl (fun h => absurd h (by decide)) (fun _ => ?_)
  refine jy_aload_n (pc' := 73) F 2 dX11_nextBack_72 rfl rfl rfl ?_
  refine jy_iload (pc' := 75) F 0 dX11_nextBack_73 rfl rfl ?_
  refine jy_calli (pc' := 78) (cells' := 0) (slots' := 0) (wr := [(s0, .inr (4, [.int 0, .int 0, .int 0, .int 0, .ref s1, .ref s2, .ref s3]))]) hA [0] [1] rfl rfl (by decide) (by decide) (jy_runV (As := [.int 1]) (b := h0) (q0 := 0) (ci := 10) (C := RX11) (T := TX11) (N := 15) (st := []) F hN (fun sz => c_X11_refuse l D k h0 0 (.long 0) (.long 1) (.ref t0) (.ref a2) (.ref s0) (.ref a4) (.int 0) (.ref a5) (.ref a6) (.ref a7) (.ref a8) (.ref a9) (.ref a10) (.int 0) 1 sz ) (jy_cV F g_c_X11_nextBack_c_X11_refuse rfl hdX11_refuse (List.mem_of_getElem? (i := 9) rfl) (List.mem_of_getElem? (i := 17) rfl) (List.mem_of_getElem? (i := 15) rfl) (List.mem_of_getElem? (i := 16) rfl) rfl rfl ⟨by decide, by decide⟩) rfl rfl [0] rfl (by decide) rfl rfl (Nat.le_of_ble_eq_true rfl) dX11_nextBack_75 ⟨by decide, by decide⟩) rfl rfl rfl (fun r_10 u_8 e_9 => ?_)
  subst e_9
  refine jy_widen (cells' := 0) (slots' := 0) (by decide) (by decide) ?_
  exact jy_iret (v := (-1)) F hr hlk () (rfl) [] rfl (by decide) dX11_nextBack_78
abbrev cX11_well : ByteArray := prog_1_method_29_code
def yX11_well : MethodName := ⟨RX11, "well", "(III)I"⟩
theorem hdX11_well : yX11_well.cls ≠ "java/lang/invoke/MethodHandle" ∧ yX11_well.cls ≠ "java/lang/invoke/VarHandle" ∧ (parseMethodDescriptor yX11_well.desc).map (fun d => d.parameters.length) = some 3 := by decide +kernel
theorem dX11_well_0 : decode cX11_well 0 = .ok (.aload_n 0, 1) := by decide +kernel
theorem dX11_well_1 : decode cX11_well 1 = .ok (.iload_n 1, 1) := by decide +kernel
theorem dX11_well_2 : decode cX11_well 2 = .ok (.iload_n 2, 1) := by decide +kernel
theorem dX11_well_3 : decode cX11_well 3 = .ok (.invokevirtual 215, 3) := by decide +kernel
theorem dX11_well_6 : decode cX11_well 6 = .ok (.ifCond .eq 12, 3) := by decide +kernel
theorem dX11_well_18 : decode cX11_well 18 = .ok (.aload_n 0, 1) := by decide +kernel
theorem dX11_well_19 : decode cX11_well 19 = .ok (.iconst 1, 1) := by decide +kernel
theorem dX11_well_20 : decode cX11_well 20 = .ok (.invokevirtual 110, 3) := by decide +kernel
theorem dX11_well_23 : decode cX11_well 23 = .ok (.ireturn, 1) := by decide +kernel
def ws_c_X11_well : List Cond := .code yX11_well cX11_well 5 (some .int) :: ([.code ⟨"NestedChecker", "hasState", "(II)Z"⟩ cX11_hasState 3 (some .boolean), .fieldLink "NestedChecker" 26 "NestedChecker" "live" "LNestedChecker$Setting;", .code ⟨"NestedChecker$Setting", "has", "(I)Z"⟩ cX5_has 2 (some .boolean), .fieldLink "NestedChecker$Setting" 38 "NestedChecker$Setting" "automata" "I", .initialized "NestedChecker$Setting", .instanceMethod ⟨"NestedChecker$Setting", "has", "(I)Z"⟩, .selects "NestedChecker$Setting" ⟨"NestedChecker$Setting", "has", "(I)Z"⟩ ⟨"NestedChecker$Setting", "has", "(I)Z"⟩, .methodLink "NestedChecker" 163 ⟨"NestedChecker$Setting", "has", "(I)Z"⟩, .initialized "NestedChecker", .instanceMethod ⟨"NestedChecker", "hasState", "(II)Z"⟩, .selects "NestedChecker" ⟨"NestedChecker", "hasState", "(II)Z"⟩ ⟨"NestedChecker", "hasState", "(II)Z"⟩, .methodLink "NestedChecker" 215 ⟨"NestedChecker", "hasState", "(II)Z"⟩, .code ⟨"NestedChecker", "refuse", "(I)I"⟩ cX11_refuse 2 (some .int), .fieldLink "NestedChecker" 72 "NestedChecker" "lastStatus" "I", .instanceMethod ⟨"NestedChecker", "refuse", "(I)I"⟩, .selects "NestedChecker" ⟨"NestedChecker", "refuse", "(I)I"⟩ ⟨"NestedChecker", "refuse", "(I)I"⟩, .methodLink "NestedChecker" 110 ⟨"NestedChecker", "refuse", "(I)I"⟩] ++ wsX110 ++ wsX50)
set_option maxRecDepth 20000 in
theorem g_c_X11_well_c_X11_hasState : GoodIn ws_c_X11_well ws_c_X11_hasState := goodIn_r _ [1, 2, 3, 4, 5, 6, 7, 8, 18, 19, 20, 21, 22, 23, 24, 25, 26, 27, 28, 29, 30, 31, 32, 33, 34, 35, 36, 37, 38, 39] (by decide +kernel) (by decide +kernel)
set_option maxRecDepth 20000 in
theorem g_c_X11_well_c_X11_refuse : GoodIn ws_c_X11_well ws_c_X11_refuse := goodIn_r _ [13, 14, 18, 19, 20, 21, 22, 23, 24, 25, 26, 27, 28, 29, 30, 31, 32] (by decide +kernel) (by decide +kernel)
set_option maxHeartbeats 4000000 in
set_option maxRecDepth 100000 in
theorem c_X11_well (l : Launch) (D : va_G) (k : jK) (h0 : Nat) (a2 : Nat) (a4 : Nat) (a5 : Nat) (a6 : Nat) (a7 : Nat) (a8 : Nat) (a9 : Nat) (a10 : Nat) (t0 : Nat) (s0 : Nat) (s1 : Nat) (s2 : Nat) (s3 : Nat) (i1 : Int32) (i2 : Int32) (i3 : Int32) (sz : Nat)  : Met l yX11_well ws_c_X11_well ({ frames := 2, cells := 0, slots := 0, locals := 43 }) (jy_P [.ref h0, .int i1, .int i2, .int i3] D vwCl (jT k) jW [(h0, .inr (10, [.int 0, .long 0, .long 1, .ref t0, .ref a2, .ref s0, .ref a4, .int 0, .ref a5, .ref a6, .ref a7, .ref a8, .ref a9, .ref a10, .int 0])), (s0, .inr (4, [.int 0, .int 0, .int 0, .int 0, .ref s1, .ref s2, .ref s3]))] sz) (va_Qi (fun (r : Int32) (u : Unit) => r = -1) (jy_B D vwCl (va_A [(h0, .inr (10, [.int 0, .long 0, .long 1, .ref t0, .ref a2, .ref s0, .ref a4, .int 0, .ref a5, .ref a6, .ref a7, .ref a8, .ref a9, .ref a10, .int 0])), (s0, .inr (4, [.int 0, .int 0, .int 0, .int 0, .ref s1, .ref s2, .ref s3]))] sz) (fun (u : Unit) => [])) (va_A [(h0, .inr (10, [.int 0, .long 0, .long 1, .ref t0, .ref a2, .ref s0, .ref a4, .int 0, .ref a5, .ref a6, .ref a7, .ref a8, .ref a9, .ref a10, .int 0])), (s0, .inr (4, [.int 0, .int 0, .int 0, .int 0, .ref s1, .ref s2, .ref s3]))] sz)) 0 0 (va_A [(h0, .inr (10, [.int 0, .long 0, .long 1, .ref t0, .ref a2, .ref s0, .ref a4, .int 0, .ref a5, .ref a6, .ref a7, .ref a8, .ref a9, .ref a10, .int 0])), (s0, .inr (4, [.int 0, .int 0, .int 0, .int 0, .ref s1, .ref s2, .ref s3]))] sz) := by
  refine jy_met (cc := cX11_well) (maxL := 5) (ret := (some .int)) (lv := [(0, .ref h0), (1, .int i1), (2, .int i2), (3, .int i3)]) (by decide) rfl (Nat.le_of_ble_eq_true rfl) rfl ?_
  intro p e s m below meth c F hr hlk hnm hN hA
  have hiX11 : ∀ w ∈ u_ws RX11 TX11 15, w ∈ ws_c_X11_well := fun w hw => List.mem_cons_of_mem _ (List.mem_append_left _ (List.mem_append_right _ hw))
  have hiX5 : ∀ w ∈ u_ws RX5 TX5 7, w ∈ ws_c_X11_well := fun w hw => List.mem_cons_of_mem _ (List.mem_append_right _ hw)
  refine jy_aload_n (pc' := 1) F 0 dX11_well_0 rfl rfl rfl ?_
  refine jy_iload_n (pc' := 2) F 1 dX11_well_1 rfl rfl rfl ?_
  refine jy_iload_n (pc' := 3) F 2 dX11_well_2 rfl rfl rfl ?_
  refine jy_callSi (pc' := 6) (jy_runV (As := [.int i1, .int i2]) (b := h0) (q0 := 0) (ci := 10) (C := RX11) (T := TX11) (N := 15) (st := []) F hN (fun sz => c_X11_hasState l D k h0 a2 a4 a5 a6 a7 a8 a9 a10 t0 s0 s1 s2 s3 i1 i2 sz ) (jy_cV F g_c_X11_well_c_X11_hasState rfl hdX11_hasState (List.mem_of_getElem? (i := 9) rfl) (List.mem_of_getElem? (i := 12) rfl) (List.mem_of_getElem? (i := 10) rfl) (List.mem_of_getElem? (i := 11) rfl) rfl rfl ⟨by decide, by decide⟩) rfl rfl [0, 1] rfl (by decide) rfl rfl (Nat.le_of_ble_eq_true rfl) dX11_well_3 ⟨by decide, by decide⟩) rfl (fun r_1 e_2 => ?_)
  subst e_2
  refine jy_if_eq (pc' := 9) (tgt := 18) F dX11_well_6 (by decide) rfl (fun _ => ?_) (fun h => absurd h (by decide))
  refine jy_aload_n (pc' := 19) F 0 dX11_well_18 rfl rfl rfl ?_
  refine jy_iconst (pc' := 20) (v := 1) F dX11_well_19 (by decide) rfl ?_
  refine jy_calli (pc' := 23) (cells' := 0) (slots' := 0) (wr := [(s0, .inr (4, [.int 0, .int 0, .int 0, .int 0, .ref s1, .ref s2, .ref s3]))]) hA [0] [1] rfl rfl (by decide) (by decide) (jy_runV (As := [.int 1]) (b := h0) (q0 := 0) (ci := 10) (C := RX11) (T := TX11) (N := 15) (st := []) F hN (fun sz => c_X11_refuse l D k h0 0 (.long 0) (.long 1) (.ref t0) (.ref a2) (.ref s0) (.ref a4) (.int 0) (.ref a5) (.ref a6) (.ref a7) (.ref a8) (.ref a9) (.ref a10) (.int 0) 1 sz ) (jy_cV F g_c_X11_well_c_X11_refuse rfl hdX11_refuse (List.mem_of_getElem? (i := 9) rfl) (List.mem_of_getElem? (i := 17) rfl) (List.mem_of_getElem? (i := 15) rfl) (List.mem_of_getElem? (i := 16) rfl) rfl rfl ⟨by decide, by decide⟩) rfl rfl [0] rfl (by decide) rfl rfl (Nat.le_of_ble_eq_true rfl) dX11_well_20 ⟨by decide, by decide⟩) rfl rfl rfl (fun r_6 u_4 e_5 => ?_)
  subst e_5
  refine jy_widen (cells' := 0) (slots' := 0) (by decide) (by decide) ?_
  exact jy_iret (v := (-1)) F hr hlk () (rfl) [] rfl (by decide) dX11_well_23
abbrev cX11_reaches : ByteArray := prog_1_method_30_code
def yX11_reaches : MethodName := ⟨RX11, "reaches", "(I)I"⟩
theorem hdX11_reaches : yX11_reaches.cls ≠ "java/lang/invoke/MethodHandle" ∧ yX11_reaches.cls ≠ "java/lang/invoke/VarHandle" ∧ (parseMethodDescriptor yX11_reaches.desc).map (fun d => d.parameters.length) = some 1 := by decide +kernel
theorem dX11_reaches_0 : decode cX11_reaches 0 = .ok (.aload_n 0, 1) := by decide +kernel
theorem dX11_reaches_1 : decode cX11_reaches 1 = .ok (.getfield 26, 3) := by decide +kernel
theorem dX11_reaches_4 : decode cX11_reaches 4 = .ok (.iload_n 1, 1) := by decide +kernel
theorem dX11_reaches_5 : decode cX11_reaches 5 = .ok (.invokevirtual 163, 3) := by decide +kernel
theorem dX11_reaches_8 : decode cX11_reaches 8 = .ok (.ifCond .ne 9, 3) := by decide +kernel
theorem dX11_reaches_11 : decode cX11_reaches 11 = .ok (.aload_n 0, 1) := by decide +kernel
theorem dX11_reaches_12 : decode cX11_reaches 12 = .ok (.iconst 1, 1) := by decide +kernel
theorem dX11_reaches_13 : decode cX11_reaches 13 = .ok (.invokevirtual 110, 3) := by decide +kernel
theorem dX11_reaches_16 : decode cX11_reaches 16 = .ok (.ireturn, 1) := by decide +kernel
def ws_c_X11_reaches : List Cond := .code yX11_reaches cX11_reaches 3 (some .int) :: ([.fieldLink "NestedChecker" 26 "NestedChecker" "live" "LNestedChecker$Setting;", .code ⟨"NestedChecker$Setting", "has", "(I)Z"⟩ cX5_has 2 (some .boolean), .fieldLink "NestedChecker$Setting" 38 "NestedChecker$Setting" "automata" "I", .initialized "NestedChecker$Setting", .instanceMethod ⟨"NestedChecker$Setting", "has", "(I)Z"⟩, .selects "NestedChecker$Setting" ⟨"NestedChecker$Setting", "has", "(I)Z"⟩ ⟨"NestedChecker$Setting", "has", "(I)Z"⟩, .methodLink "NestedChecker" 163 ⟨"NestedChecker$Setting", "has", "(I)Z"⟩, .code ⟨"NestedChecker", "refuse", "(I)I"⟩ cX11_refuse 2 (some .int), .fieldLink "NestedChecker" 72 "NestedChecker" "lastStatus" "I", .initialized "NestedChecker", .instanceMethod ⟨"NestedChecker", "refuse", "(I)I"⟩, .selects "NestedChecker" ⟨"NestedChecker", "refuse", "(I)I"⟩ ⟨"NestedChecker", "refuse", "(I)I"⟩, .methodLink "NestedChecker" 110 ⟨"NestedChecker", "refuse", "(I)I"⟩] ++ wsX110 ++ wsX50)
set_option maxRecDepth 20000 in
theorem g_c_X11_reaches_c_X5_has : GoodIn ws_c_X11_reaches ws_c_X5_has := goodIn_r _ [2, 3, 29, 30, 31, 32, 33, 34, 35] (by decide +kernel) (by decide +kernel)
set_option maxRecDepth 20000 in
theorem g_c_X11_reaches_c_X11_refuse : GoodIn ws_c_X11_reaches ws_c_X11_refuse := goodIn_r _ [8, 9, 14, 15, 16, 17, 18, 19, 20, 21, 22, 23, 24, 25, 26, 27, 28] (by decide +kernel) (by decide +kernel)
set_option maxHeartbeats 4000000 in
set_option maxRecDepth 100000 in
theorem c_X11_reaches (l : Launch) (D : va_G) (k : jK) (h0 : Nat) (a2 : Nat) (a4 : Nat) (a5 : Nat) (a6 : Nat) (a7 : Nat) (a8 : Nat) (a9 : Nat) (a10 : Nat) (t0 : Nat) (s0 : Nat) (s1 : Nat) (s2 : Nat) (s3 : Nat) (i1 : Int32) (sz : Nat)  : Met l yX11_reaches ws_c_X11_reaches ({ frames := 1, cells := 0, slots := 0, locals := 21 }) (jy_P [.ref h0, .int i1] D vwCl (jT k) jW [(h0, .inr (10, [.int 0, .long 0, .long 1, .ref t0, .ref a2, .ref s0, .ref a4, .int 0, .ref a5, .ref a6, .ref a7, .ref a8, .ref a9, .ref a10, .int 0])), (s0, .inr (4, [.int 0, .int 0, .int 0, .int 0, .ref s1, .ref s2, .ref s3]))] sz) (va_Qi (fun (r : Int32) (u : Unit) => r = -1) (jy_B D vwCl (va_A [(h0, .inr (10, [.int 0, .long 0, .long 1, .ref t0, .ref a2, .ref s0, .ref a4, .int 0, .ref a5, .ref a6, .ref a7, .ref a8, .ref a9, .ref a10, .int 0])), (s0, .inr (4, [.int 0, .int 0, .int 0, .int 0, .ref s1, .ref s2, .ref s3]))] sz) (fun (u : Unit) => [])) (va_A [(h0, .inr (10, [.int 0, .long 0, .long 1, .ref t0, .ref a2, .ref s0, .ref a4, .int 0, .ref a5, .ref a6, .ref a7, .ref a8, .ref a9, .ref a10, .int 0])), (s0, .inr (4, [.int 0, .int 0, .int 0, .int 0, .ref s1, .ref s2, .ref s3]))] sz)) 0 0 (va_A [(h0, .inr (10, [.int 0, .long 0, .long 1, .ref t0, .ref a2, .ref s0, .ref a4, .int 0, .ref a5, .ref a6, .ref a7, .ref a8, .ref a9, .ref a10, .int 0])), (s0, .inr (4, [.int 0, .int 0, .int 0, .int 0, .ref s1, .ref s2, .ref s3]))] sz) := by
  refine jy_met (cc := cX11_reaches) (maxL := 3) (ret := (some .int)) (lv := [(0, .ref h0), (1, .int i1)]) (by decide) rfl (Nat.le_of_ble_eq_true rfl) rfl ?_
  intro p e s m below meth c F hr hlk hnm hN hA
  have hiX11 : ∀ w ∈ u_ws RX11 TX11 15, w ∈ ws_c_X11_reaches := fun w hw => List.mem_cons_of_mem _ (List.mem_append_left _ (List.mem_append_right _ hw))
  have hiX5 : ∀ w ∈ u_ws RX5 TX5 7, w ∈ ws_c_X11_reaches := fun w hw => List.mem_cons_of_mem _ (List.mem_append_right _ hw)
  refine jy_aload_n (pc' := 1) F 0 dX11_reaches_0 rfl rfl rfl ?_
  refine jy_get (pc' := 4) (C := RX11) (T := TX11) (N := 15) (ci := 10) (v := .ref s0) F hiX11 0 rfl rfl 5 (by decide) dX11_reaches_1 (List.mem_of_getElem? (i := 1) rfl) rfl rfl ?_
  refine jy_iload_n (pc' := 5) F 1 dX11_reaches_4 rfl rfl rfl ?_
  refine jy_callSi (pc' := 8) (jy_runV (As := [.int i1]) (b := s0) (q0 := 1) (ci := 4) (C := RX5) (T := TX5) (N := 7) (st := []) F hN (fun sz => c_X5_has l D k s0 s1 s2 s3 i1 sz ) (jy_cV F g_c_X11_reaches_c_X5_has rfl hdX5_has (List.mem_of_getElem? (i := 4) rfl) (List.mem_of_getElem? (i := 7) rfl) (List.mem_of_getElem? (i := 5) rfl) (List.mem_of_getElem? (i := 6) rfl) rfl rfl ⟨by decide, by decide⟩) rfl rfl [1] rfl (by decide) rfl rfl (Nat.le_of_ble_eq_true rfl) dX11_reaches_5 ⟨by decide, by decide⟩) rfl (fun r_1 e_2 => ?_)
  subst e_2
  refine jy_if_ne (pc' := 11) (tgt := 17) F dX11_reaches_8 (by decide) rfl (fun h => absurd h (by decide)) (fun _ => ?_)
  refine jy_aload_n (pc' := 12) F 0 dX11_reaches_11 rfl rfl rfl ?_
  refine jy_iconst (pc' := 13) (v := 1) F dX11_reaches_12 (by decide) rfl ?_
  refine jy_calli (pc' := 16) (cells' := 0) (slots' := 0) (wr := [(s0, .inr (4, [.int 0, .int 0, .int 0, .int 0, .ref s1, .ref s2, .ref s3]))]) hA [0] [1] rfl rfl (by decide) (by decide) (jy_runV (As := [.int 1]) (b := h0) (q0 := 0) (ci := 10) (C := RX11) (T := TX11) (N := 15) (st := []) F hN (fun sz => c_X11_refuse l D k h0 0 (.long 0) (.long 1) (.ref t0) (.ref a2) (.ref s0) (.ref a4) (.int 0) (.ref a5) (.ref a6) (.ref a7) (.ref a8) (.ref a9) (.ref a10) (.int 0) 1 sz ) (jy_cV F g_c_X11_reaches_c_X11_refuse rfl hdX11_refuse (List.mem_of_getElem? (i := 10) rfl) (List.mem_of_getElem? (i := 13) rfl) (List.mem_of_getElem? (i := 11) rfl) (List.mem_of_getElem? (i := 12) rfl) rfl rfl ⟨by decide, by decide⟩) rfl rfl [0] rfl (by decide) rfl rfl (Nat.le_of_ble_eq_true rfl) dX11_reaches_13 ⟨by decide, by decide⟩) rfl rfl rfl (fun r_6 u_4 e_5 => ?_)
  subst e_5
  refine jy_widen (cells' := 0) (slots' := 0) (by decide) (by decide) ?_
  exact jy_iret (v := (-1)) F hr hlk () (rfl) [] rfl (by decide) dX11_reaches_16
