abbrev cX9_make : ByteArray := prog_11_method_7_code
def yX9_make : MethodName := ⟨RX9, "make", "(III)V"⟩
theorem hdX9_make : yX9_make.cls ≠ "java/lang/invoke/MethodHandle" ∧ yX9_make.cls ≠ "java/lang/invoke/VarHandle" ∧ (parseMethodDescriptor yX9_make.desc).map (fun d => d.parameters.length) = some 3 := by decide +kernel
theorem dX9_make_0 : decode cX9_make 0 = .ok (.aload_n 0, 1) := by decide +kernel
theorem dX9_make_1 : decode cX9_make 1 = .ok (.getfield 15, 3) := by decide +kernel
theorem dX9_make_4 : decode cX9_make 4 = .ok (.iload_n 1, 1) := by decide +kernel
theorem dX9_make_5 : decode cX9_make 5 = .ok (.iload_n 2, 1) := by decide +kernel
theorem dX9_make_6 : decode cX9_make 6 = .ok (.iastore, 1) := by decide +kernel
theorem dX9_make_7 : decode cX9_make 7 = .ok (.aload_n 0, 1) := by decide +kernel
theorem dX9_make_8 : decode cX9_make 8 = .ok (.getfield 19, 3) := by decide +kernel
theorem dX9_make_11 : decode cX9_make 11 = .ok (.iload_n 1, 1) := by decide +kernel
theorem dX9_make_12 : decode cX9_make 12 = .ok (.iload_n 3, 1) := by decide +kernel
theorem dX9_make_13 : decode cX9_make 13 = .ok (.iastore, 1) := by decide +kernel
theorem dX9_make_14 : decode cX9_make 14 = .ok (.iconst 0, 1) := by decide +kernel
theorem dX9_make_15 : decode cX9_make 15 = .ok (.istore 4, 2) := by decide +kernel
theorem dX9_make_17 : decode cX9_make 17 = .ok (.iload 4, 2) := by decide +kernel
theorem dX9_make_19 : decode cX9_make 19 = .ok (.iload_n 3, 1) := by decide +kernel
theorem dX9_make_20 : decode cX9_make 20 = .ok (.if_icmp .ge 22, 3) := by decide +kernel
theorem dX9_make_23 : decode cX9_make 23 = .ok (.aload_n 0, 1) := by decide +kernel
theorem dX9_make_24 : decode cX9_make 24 = .ok (.getfield 11, 3) := by decide +kernel
theorem dX9_make_27 : decode cX9_make 27 = .ok (.iload_n 1, 1) := by decide +kernel
theorem dX9_make_28 : decode cX9_make 28 = .ok (.bipush 60, 2) := by decide +kernel
theorem dX9_make_30 : decode cX9_make 30 = .ok (.imul, 1) := by decide +kernel
theorem dX9_make_31 : decode cX9_make 31 = .ok (.iload 4, 2) := by decide +kernel
theorem dX9_make_33 : decode cX9_make 33 = .ok (.iadd, 1) := by decide +kernel
theorem dX9_make_34 : decode cX9_make 34 = .ok (.lconst 0, 1) := by decide +kernel
theorem dX9_make_35 : decode cX9_make 35 = .ok (.lastore, 1) := by decide +kernel
theorem dX9_make_36 : decode cX9_make 36 = .ok (.iinc 4 1, 3) := by decide +kernel
theorem dX9_make_39 : decode cX9_make 39 = .ok (.goto (-22), 3) := by decide +kernel
theorem dX9_make_42 : decode cX9_make 42 = .ok (.return_, 1) := by decide +kernel
def ws_c_X9_make : List Cond := .code yX9_make cX9_make 5 none :: ([.fieldLink "NestedChecker$Trays" 15 "NestedChecker$Trays" "sorts" "[I", .fieldLink "NestedChecker$Trays" 19 "NestedChecker$Trays" "places" "[I", .fieldLink "NestedChecker$Trays" 11 "NestedChecker$Trays" "values" "[J"] ++ wsX90)
set_option maxHeartbeats 4000000 in
set_option maxRecDepth 100000 in
theorem c_X9_make (l : Launch) (D : va_G) (k : jK) (t0 : Nat) (t1 : Nat) (t2 : Nat) (t3 : Nat) (fv : Nat → Int64) (fs : Nat → Int32) (fp : Nat → Int32) (tt : Nat) (so : Int32) (mm : Nat) (sz : Nat) (ht : tt < 4) (hm : mm ≤ 60) : Met l yX9_make ws_c_X9_make ({ frames := 0, cells := 0, slots := 0, locals := 0 }) (jy_P [.ref t0, .int (nI tt), .int so, .int (nI mm)] D vwCl (jT k) jW [(t0, .inr (8, [.ref t1, .ref t2, .ref t3])), (t1, .inl (k.2.2.1, 240, .inr (.inl fv))), (t2, .inl (k.2.1, 4, .inl fs)), (t3, .inl (k.2.1, 4, .inl fp))] sz) (va_Qv (fun (u : Unit) => True) (jy_B D vwCl (va_A [(t0, .inr (8, [.ref t1, .ref t2, .ref t3])), (t1, .inl (k.2.2.1, 240, .inr (.inl fv))), (t2, .inl (k.2.1, 4, .inl fs)), (t3, .inl (k.2.1, 4, .inl fp))] sz) (fun (u : Unit) => [])) (va_A [(t0, .inr (8, [.ref t1, .ref t2, .ref t3])), (t1, .inl (k.2.2.1, 240, .inr (.inl fv))), (t2, .inl (k.2.1, 4, .inl fs)), (t3, .inl (k.2.1, 4, .inl fp))] sz)) 0 0 (va_A [(t0, .inr (8, [.ref t1, .ref t2, .ref t3])), (t1, .inl (k.2.2.1, 240, .inr (.inl fv))), (t2, .inl (k.2.1, 4, .inl fs)), (t3, .inl (k.2.1, 4, .inl fp))] sz) := by
  refine jy_met (cc := cX9_make) (maxL := 5) (ret := none) (lv := [(0, .ref t0), (1, .int (nI tt)), (2, .int so), (3, .int (nI mm))]) (by decide) rfl (Nat.le_of_ble_eq_true rfl) rfl ?_
  intro p e s m below meth c F hr hlk hnm hN hA
  have hiX9 : ∀ w ∈ u_ws RX9 TX9 3, w ∈ ws_c_X9_make := fun w hw => List.mem_cons_of_mem _ (List.mem_append_right _ hw)
  refine jy_aload_n (pc' := 1) F 0 dX9_make_0 rfl rfl rfl ?_
  refine jy_get (pc' := 4) (C := RX9) (T := TX9) (N := 3) (ci := 8) (v := .ref t2) F hiX9 0 rfl rfl 1 (by decide) dX9_make_1 (List.mem_of_getElem? (i := 1) rfl) rfl rfl ?_
  refine jy_iload_n (pc' := 5) F 1 dX9_make_4 rfl rfl rfl ?_
  refine jy_iload_n (pc' := 6) F 2 dX9_make_5 rfl rfl rfl ?_
  refine jy_iast (pc' := 7) (g := (upd fs tt so)) (ws' := [(t0, .inr (8, [.ref t1, .ref t2, .ref t3])), (t1, .inl (k.2.2.1, 240, .inr (.inl fv))), (t2, .inl (k.2.1, 4, .inl (upd fs tt so))), (t3, .inl (k.2.1, 4, .inl fp))]) F 2 1 rfl rfl dX9_make_6 (vp_in_nI (n := tt) (by omega) (by omega)) (by rw [nI_clamp (by omega)]) rfl rfl ?_
  refine jy_aload_n (pc' := 8) F 0 dX9_make_7 rfl rfl rfl ?_
  refine jy_get (pc' := 11) (C := RX9) (T := TX9) (N := 3) (ci := 8) (v := .ref t3) F hiX9 0 rfl rfl 2 (by decide) dX9_make_8 (List.mem_of_getElem? (i := 2) rfl) rfl rfl ?_
  refine jy_iload_n (pc' := 12) F 1 dX9_make_11 rfl rfl rfl ?_
  refine jy_iload_n (pc' := 13) F 3 dX9_make_12 rfl rfl rfl ?_
  refine jy_iast (pc' := 14) (g := (upd fp tt (nI mm))) (ws' := [(t0, .inr (8, [.ref t1, .ref t2, .ref t3])), (t1, .inl (k.2.2.1, 240, .inr (.inl fv))), (t2, .inl (k.2.1, 4, .inl (upd fs tt so))), (t3, .inl (k.2.1, 4, .inl (upd fp tt (nI mm))))]) F 3 1 rfl rfl dX9_make_13 (vp_in_nI (n := tt) (by omega) (by omega)) (by rw [nI_clamp (by omega)]) rfl rfl ?_
  refine jy_iconst (pc' := 15) (v := 0) F dX9_make_14 (by decide) rfl ?_
  refine jy_istore (pc' := 17) (lv' := [(4, .int 0), (0, .ref t0), (1, .int (nI tt)), (2, .int so), (3, .int (nI mm))]) F dX9_make_15 (by decide) rfl rfl ?_
  refine jy_lpick (lv' := [(4, .int 0), (0, .ref t0), (1, .int (nI tt)), (2, .int so), (3, .int (nI mm))]) [0, 1, 2, 3, 4] rfl ?_
  refine jy_loop (α := (Nat → Int64)) (ws := fun i_1 a_3 => [(t0, .inr (8, [.ref t1, .ref t2, .ref t3])), (t1, .inl (k.2.2.1, 240, .inr (.inl a_3))), (t2, .inl (k.2.1, 4, .inl (upd fs tt so))), (t3, .inl (k.2.1, 4, .inl (upd fp tt (nI mm))))]) (lv := fun i_1 a_3 => [(4, .int (nI i_1)), (0, .ref t0), (1, .int (nI tt)), (2, .int so), (3, .int (nI mm))]) (I := fun i_1 a_3 => True) (hi := mm) (i0 := 0) (a0 := (fv)) (by omega) (trivial) ?_ ?_
  · rintro i_1 f_2 h_4 hv_6 ih_5
    refine jy_ws (ws' := [(t0, .inr (8, [.ref t1, .ref t2, .ref t3])), (t1, .inl (k.2.2.1, 240, .inr (.inl f_2))), (t2, .inl (k.2.1, 4, .inl (upd fs tt so))), (t3, .inl (k.2.1, 4, .inl (upd fp tt (nI mm))))]) rfl ?_
    refine jy_iload (pc' := 19) F 0 dX9_make_17 rfl rfl ?_
    refine jy_iload_n (pc' := 20) F 4 dX9_make_19 rfl rfl rfl ?_
    refine jy_icmp_ge (pc' := 23) (tgt := 42) F dX9_make_20 (by decide) rfl (fun h => absurd h (nI_ge (a := i_1) (b := mm) (by omega) (by omega))) (fun _ => ?_)
    refine jy_aload_n (pc' := 24) F 1 dX9_make_23 rfl rfl rfl ?_
    refine jy_get (pc' := 27) (C := RX9) (T := TX9) (N := 3) (ci := 8) (v := .ref t1) F hiX9 0 rfl rfl 0 (by decide) dX9_make_24 (List.mem_of_getElem? (i := 3) rfl) rfl rfl ?_
    refine jy_iload_n (pc' := 28) F 2 dX9_make_27 rfl rfl rfl ?_
    refine jy_bipush (pc' := 30) (v := 60) F dX9_make_28 (by decide) rfl ?_
    refine jy_imul (pc' := 31) (v := (nI (tt * 60))) F dX9_make_30 (pk_mul tt 60) rfl ?_
    refine jy_iload (pc' := 33) F 0 dX9_make_31 rfl rfl ?_
    refine jy_iadd (pc' := 34) (v := (nI ((tt * 60) + i_1))) F dX9_make_33 (nI_add (tt * 60) i_1) rfl ?_
    refine jy_lconst (pc' := 35) (v := 0) F dX9_make_34 (by decide) rfl ?_
    refine jy_last (pc' := 36) (g := (vp_updL f_2 ((tt * 60) + i_1) 0)) (ws' := [(t0, .inr (8, [.ref t1, .ref t2, .ref t3])), (t1, .inl (k.2.2.1, 240, .inr (.inl (vp_updL f_2 ((tt * 60) + i_1) 0)))), (t2, .inl (k.2.1, 4, .inl (upd fs tt so))), (t3, .inl (k.2.1, 4, .inl (upd fp tt (nI mm))))]) F 1 2 rfl rfl dX9_make_35 (vp_in_nI (n := (tt * 60) + i_1) (by omega) (by omega)) (by rw [nI_clamp (by omega)]) rfl rfl ?_
    refine jy_iinc (pc' := 39) (v := (nI (i_1 + 1))) (lv' := [(4, .int (nI (i_1 + 1))), (0, .ref t0), (1, .int (nI tt)), (2, .int so), (3, .int (nI mm))]) F 0 dX9_make_36 rfl (nI_add i_1 1) (by decide) rfl rfl ?_
    refine jy_goto (tgt := 17) F dX9_make_39 (by decide) ?_
    refine jy_lpick (lv' := [(4, .int (nI (i_1 + 1))), (0, .ref t0), (1, .int (nI tt)), (2, .int so), (3, .int (nI mm))]) [0, 1, 2, 3, 4] rfl ?_
    exact ih_5 ((vp_updL f_2 ((tt * 60) + i_1) 0)) (trivial)
  · rintro f_2 hv_6
    refine jy_ws (ws' := [(t0, .inr (8, [.ref t1, .ref t2, .ref t3])), (t1, .inl (k.2.2.1, 240, .inr (.inl f_2))), (t2, .inl (k.2.1, 4, .inl (upd fs tt so))), (t3, .inl (k.2.1, 4, .inl (upd fp tt (nI mm))))]) rfl ?_
    refine jy_iload (pc' := 19) F 0 dX9_make_17 rfl rfl ?_
    refine jy_iload_n (pc' := 20) F 4 dX9_make_19 rfl rfl rfl ?_
    refine jy_icmp_ge (pc' := 23) (tgt := 42) F dX9_make_20 (by decide) rfl (fun _ => ?_) (fun h => absurd (nI_le (a := mm) (b := mm) (by omega) (by omega)) h)
    refine jy_widen (cells' := 0) (slots' := 0) (by decide) (by decide) ?_
    exact jy_vret F hr hlk () (trivial) [] rfl (by decide) dX9_make_42
abbrev cX11_tray : ByteArray := prog_1_method_5_code
def yX11_tray : MethodName := ⟨RX11, "tray", "(III)Z"⟩
theorem hdX11_tray : yX11_tray.cls ≠ "java/lang/invoke/MethodHandle" ∧ yX11_tray.cls ≠ "java/lang/invoke/VarHandle" ∧ (parseMethodDescriptor yX11_tray.desc).map (fun d => d.parameters.length) = some 3 := by decide +kernel
theorem dX11_tray_0 : decode cX11_tray 0 = .ok (.aload_n 0, 1) := by decide +kernel
theorem dX11_tray_1 : decode cX11_tray 1 = .ok (.getfield 10, 3) := by decide +kernel
theorem dX11_tray_4 : decode cX11_tray 4 = .ok (.iload_n 1, 1) := by decide +kernel
theorem dX11_tray_5 : decode cX11_tray 5 = .ok (.invokevirtual 83, 3) := by decide +kernel
theorem dX11_tray_8 : decode cX11_tray 8 = .ok (.ifCond .eq 22, 3) := by decide +kernel
theorem dX11_tray_11 : decode cX11_tray 11 = .ok (.iload_n 2, 1) := by decide +kernel
theorem dX11_tray_12 : decode cX11_tray 12 = .ok (.iconst 0, 1) := by decide +kernel
theorem dX11_tray_13 : decode cX11_tray 13 = .ok (.iconst 3, 1) := by decide +kernel
theorem dX11_tray_14 : decode cX11_tray 14 = .ok (.invokestatic 87, 3) := by decide +kernel
theorem dX11_tray_17 : decode cX11_tray 17 = .ok (.ifCond .eq 13, 3) := by decide +kernel
theorem dX11_tray_20 : decode cX11_tray 20 = .ok (.iload_n 3, 1) := by decide +kernel
theorem dX11_tray_21 : decode cX11_tray 21 = .ok (.iconst 0, 1) := by decide +kernel
theorem dX11_tray_22 : decode cX11_tray 22 = .ok (.bipush 60, 2) := by decide +kernel
theorem dX11_tray_24 : decode cX11_tray 24 = .ok (.invokestatic 87, 3) := by decide +kernel
theorem dX11_tray_27 : decode cX11_tray 27 = .ok (.ifCond .ne 9, 3) := by decide +kernel
theorem dX11_tray_30 : decode cX11_tray 30 = .ok (.aload_n 0, 1) := by decide +kernel
theorem dX11_tray_31 : decode cX11_tray 31 = .ok (.iconst 1, 1) := by decide +kernel
theorem dX11_tray_32 : decode cX11_tray 32 = .ok (.invokevirtual 91, 3) := by decide +kernel
theorem dX11_tray_35 : decode cX11_tray 35 = .ok (.ireturn, 1) := by decide +kernel
theorem dX11_tray_36 : decode cX11_tray 36 = .ok (.aload_n 0, 1) := by decide +kernel
theorem dX11_tray_37 : decode cX11_tray 37 = .ok (.getfield 10, 3) := by decide +kernel
theorem dX11_tray_40 : decode cX11_tray 40 = .ok (.iload_n 1, 1) := by decide +kernel
theorem dX11_tray_41 : decode cX11_tray 41 = .ok (.iload_n 2, 1) := by decide +kernel
theorem dX11_tray_42 : decode cX11_tray 42 = .ok (.iload_n 3, 1) := by decide +kernel
theorem dX11_tray_43 : decode cX11_tray 43 = .ok (.invokevirtual 94, 3) := by decide +kernel
theorem dX11_tray_46 : decode cX11_tray 46 = .ok (.aload_n 0, 1) := by decide +kernel
theorem dX11_tray_47 : decode cX11_tray 47 = .ok (.invokevirtual 98, 3) := by decide +kernel
theorem dX11_tray_50 : decode cX11_tray 50 = .ok (.ireturn, 1) := by decide +kernel
def ws_c_X11_tray : List Cond := .code yX11_tray cX11_tray 4 (some .boolean) :: ([.fieldLink "NestedChecker" 10 "NestedChecker" "trays" "LNestedChecker$Trays;", .code ⟨"NestedChecker$Trays", "has", "(I)Z"⟩ cX9_has 2 (some .boolean), .code ⟨"NestedChecker", "within", "(III)Z"⟩ cX11_within 3 (some .boolean), .initialized "NestedChecker", .static ⟨"NestedChecker", "within", "(III)Z"⟩, .initialized "NestedChecker$Trays", .instanceMethod ⟨"NestedChecker$Trays", "has", "(I)Z"⟩, .selects "NestedChecker$Trays" ⟨"NestedChecker$Trays", "has", "(I)Z"⟩ ⟨"NestedChecker$Trays", "has", "(I)Z"⟩, .methodLink "NestedChecker" 83 ⟨"NestedChecker$Trays", "has", "(I)Z"⟩, .methodLink "NestedChecker" 87 ⟨"NestedChecker", "within", "(III)Z"⟩, .code ⟨"NestedChecker$Trays", "make", "(III)V"⟩ cX9_make 5 none, .fieldLink "NestedChecker$Trays" 15 "NestedChecker$Trays" "sorts" "[I", .fieldLink "NestedChecker$Trays" 19 "NestedChecker$Trays" "places" "[I", .fieldLink "NestedChecker$Trays" 11 "NestedChecker$Trays" "values" "[J", .instanceMethod ⟨"NestedChecker$Trays", "make", "(III)V"⟩, .selects "NestedChecker$Trays" ⟨"NestedChecker$Trays", "make", "(III)V"⟩ ⟨"NestedChecker$Trays", "make", "(III)V"⟩, .methodLink "NestedChecker" 94 ⟨"NestedChecker$Trays", "make", "(III)V"⟩, .code ⟨"NestedChecker", "agree", "()Z"⟩ cX11_agree 1 (some .boolean), .fieldLink "NestedChecker" 72 "NestedChecker" "lastStatus" "I", .instanceMethod ⟨"NestedChecker", "agree", "()Z"⟩, .selects "NestedChecker" ⟨"NestedChecker", "agree", "()Z"⟩ ⟨"NestedChecker", "agree", "()Z"⟩, .methodLink "NestedChecker" 98 ⟨"NestedChecker", "agree", "()Z"⟩, .code ⟨"NestedChecker", "deny", "(I)Z"⟩ cX11_deny 2 (some .boolean), .instanceMethod ⟨"NestedChecker", "deny", "(I)Z"⟩, .selects "NestedChecker" ⟨"NestedChecker", "deny", "(I)Z"⟩ ⟨"NestedChecker", "deny", "(I)Z"⟩, .methodLink "NestedChecker" 91 ⟨"NestedChecker", "deny", "(I)Z"⟩] ++ wsX110 ++ wsX90)
set_option maxRecDepth 20000 in
theorem g_c_X11_tray_c_X9_has : GoodIn ws_c_X11_tray ws_c_X9_has := goodIn_r _ [2, 3, 4, 5] (by decide +kernel) (by decide +kernel)
set_option maxRecDepth 20000 in
theorem g_c_X11_tray_c_X11_within : GoodIn ws_c_X11_tray ws_c_X11_within := goodIn_r _ [3] (by decide +kernel) (by decide +kernel)
set_option maxRecDepth 20000 in
theorem g_c_X11_tray_c_X9_make : GoodIn ws_c_X11_tray ws_c_X9_make := goodIn_r _ [11, 12, 13, 14, 42, 43, 44] (by decide +kernel) (by decide +kernel)
set_option maxRecDepth 20000 in
theorem g_c_X11_tray_c_X11_agree : GoodIn ws_c_X11_tray ws_c_X11_agree := goodIn_r _ [18, 19, 27, 28, 29, 30, 31, 32, 33, 34, 35, 36, 37, 38, 39, 40, 41] (by decide +kernel) (by decide +kernel)
set_option maxRecDepth 20000 in
theorem g_c_X11_tray_c_X11_deny : GoodIn ws_c_X11_tray ws_c_X11_deny := goodIn_r _ [23, 19, 27, 28, 29, 30, 31, 32, 33, 34, 35, 36, 37, 38, 39, 40, 41] (by decide +kernel) (by decide +kernel)
set_option maxHeartbeats 4000000 in
set_option maxRecDepth 100000 in
theorem c_X11_tray (l : Launch) (D : va_G) (k : jK) (h0 : Nat) (a2 : Nat) (a4 : Nat) (a5 : Nat) (a6 : Nat) (a7 : Nat) (a8 : Nat) (a9 : Nat) (a10 : Nat) (t0 : Nat) (s0 : Nat) (t1 : Nat) (t2 : Nat) (t3 : Nat) (fv : Nat → Int64) (fs : Nat → Int32) (fp : Nat → Int32) (i1 : Int32) (i2 : Int32) (i3 : Int32) (sz : Nat) (hp : ∀ j, j < 4 → fp j = -1) : Met l yX11_tray ws_c_X11_tray ({ frames := 2, cells := 0, slots := 0, locals := 43 }) (jy_P [.ref h0, .int i1, .int i2, .int i3] D vwCl (jT k) jW [(h0, .inr (10, [.int 0, .long 0, .long 1, .ref t0, .ref a2, .ref s0, .ref a4, .int 0, .ref a5, .ref a6, .ref a7, .ref a8, .ref a9, .ref a10, .int 0])), (t0, .inr (8, [.ref t1, .ref t2, .ref t3])), (t1, .inl (k.2.2.1, 240, .inr (.inl fv))), (t2, .inl (k.2.1, 4, .inl fs)), (t3, .inl (k.2.1, 4, .inl fp))] sz) (va_Qi (fun (r : Int32) (u : Unit) => (r = 1 ∧ (¬ i1 < 0 ∧ ¬ 3 < i1 ∧ ¬ i2 < 0 ∧ ¬ 3 < i2 ∧ ¬ i3 < 0 ∧ ¬ 60 < i3)) ∨ (r = 0 ∧ ¬ (¬ i1 < 0 ∧ ¬ 3 < i1 ∧ ¬ i2 < 0 ∧ ¬ 3 < i2 ∧ ¬ i3 < 0 ∧ ¬ 60 < i3))) (jy_B D vwCl (va_A [(h0, .inr (10, [.int 0, .long 0, .long 1, .ref t0, .ref a2, .ref s0, .ref a4, .int 0, .ref a5, .ref a6, .ref a7, .ref a8, .ref a9, .ref a10, .int 0])), (t0, .inr (8, [.ref t1, .ref t2, .ref t3])), (t1, .inl (k.2.2.1, 240, .inr (.inl fv))), (t2, .inl (k.2.1, 4, .inl fs)), (t3, .inl (k.2.1, 4, .inl fp))] sz) (fun (u : Unit) => [])) (va_A [(h0, .inr (10, [.int 0, .long 0, .long 1, .ref t0, .ref a2, .ref s0, .ref a4, .int 0, .ref a5, .ref a6, .ref a7, .ref a8, .ref a9, .ref a10, .int 0])), (t0, .inr (8, [.ref t1, .ref t2, .ref t3])), (t1, .inl (k.2.2.1, 240, .inr (.inl fv))), (t2, .inl (k.2.1, 4, .inl fs)), (t3, .inl (k.2.1, 4, .inl fp))] sz)) 0 0 (va_A [(h0, .inr (10, [.int 0, .long 0, .long 1, .ref t0, .ref a2, .ref s0, .ref a4, .int 0, .ref a5, .ref a6, .ref a7, .ref a8, .ref a9, .ref a10, .int 0])), (t0, .inr (8, [.ref t1, .ref t2, .ref t3])), (t1, .inl (k.2.2.1, 240, .inr (.inl fv))), (t2, .inl (k.2.1, 4, .inl fs)), (t3, .inl (k.2.1, 4, .inl fp))] sz) := by
  refine jy_met (cc := cX11_tray) (maxL := 4) (ret := (some .boolean)) (lv := [(0, .ref h0), (1, .int i1), (2, .int i2), (3, .int i3)]) (by decide) rfl (Nat.le_of_ble_eq_true rfl) rfl ?_
  intro p e s m below meth c F hr hlk hnm hN hA
  have hiX11 : ∀ w ∈ u_ws RX11 TX11 15, w ∈ ws_c_X11_tray := fun w hw => List.mem_cons_of_mem _ (List.mem_append_left _ (List.mem_append_right _ hw))
  have hiX9 : ∀ w ∈ u_ws RX9 TX9 3, w ∈ ws_c_X11_tray := fun w hw => List.mem_cons_of_mem _ (List.mem_append_right _ hw)
  refine jy_aload_n (pc' := 1) F 0 dX11_tray_0 rfl rfl rfl ?_
  refine jy_get (pc' := 4) (C := RX11) (T := TX11) (N := 15) (ci := 10) (v := .ref t0) F hiX11 0 rfl rfl 3 (by decide) dX11_tray_1 (List.mem_of_getElem? (i := 1) rfl) rfl rfl ?_
  refine jy_iload_n (pc' := 5) F 1 dX11_tray_4 rfl rfl rfl ?_
  refine jy_callSi (pc' := 8) (jy_runV (As := [.int i1]) (b := t0) (q0 := 1) (ci := 8) (C := RX9) (T := TX9) (N := 3) (st := []) F hN (fun sz => c_X9_has l D k t0 t1 t2 t3 i1 sz ) (jy_cV F g_c_X11_tray_c_X9_has rfl hdX9_has (List.mem_of_getElem? (i := 6) rfl) (List.mem_of_getElem? (i := 9) rfl) (List.mem_of_getElem? (i := 7) rfl) (List.mem_of_getElem? (i := 8) rfl) rfl rfl ⟨by decide, by decide⟩) rfl rfl [1] rfl (by decide) rfl rfl (Nat.le_of_ble_eq_true rfl) dX11_tray_5 ⟨by decide, by decide⟩) rfl (fun r_1 e_2 => ?_)
  rcases e_2 with ⟨z_4, h_3⟩ | ⟨z_5, h_3⟩
  · subst z_4
    refine jy_if_eq (pc' := 11) (tgt := 30) F dX11_tray_8 (by decide) rfl (fun h => absurd h (by decide)) (fun _ => ?_)
    refine jy_iload_n (pc' := 12) F 2 dX11_tray_11 rfl rfl rfl ?_
    refine jy_iconst (pc' := 13) (v := 0) F dX11_tray_12 (by decide) rfl ?_
    refine jy_iconst (pc' := 14) (v := 3) F dX11_tray_13 (by decide) rfl ?_
    refine jy_callSi (pc' := 17) (jy_runS (As := [.int i2, .int 0, .int 3]) (st := []) F hN (fun sz => c_X11_within l D k i2 0 3 sz ) (jy_cS F g_c_X11_tray_c_X11_within rfl hdX11_within (List.mem_of_getElem? (i := 4) rfl) (List.mem_of_getElem? (i := 10) rfl) (List.mem_of_getElem? (i := 5) rfl) rfl rfl ⟨by decide, by decide⟩) [] rfl (by decide) rfl rfl (Nat.le_of_ble_eq_true rfl) dX11_tray_14 ⟨by decide, by decide⟩) rfl (fun r_7 e_8 => ?_)
    rcases e_8 with ⟨z_10, h_9⟩ | ⟨z_11, h_9⟩
    · subst z_10
      refine jy_if_eq (pc' := 20) (tgt := 30) F dX11_tray_17 (by decide) rfl (fun h => absurd h (by decide)) (fun _ => ?_)
      refine jy_iload_n (pc' := 21) F 3 dX11_tray_20 rfl rfl rfl ?_
      refine jy_iconst (pc' := 22) (v := 0) F dX11_tray_21 (by decide) rfl ?_
      refine jy_bipush (pc' := 24) (v := 60) F dX11_tray_22 (by decide) rfl ?_
      refine jy_callSi (pc' := 27) (jy_runS (As := [.int i3, .int 0, .int 60]) (st := []) F hN (fun sz => c_X11_within l D k i3 0 60 sz ) (jy_cS F g_c_X11_tray_c_X11_within rfl hdX11_within (List.mem_of_getElem? (i := 4) rfl) (List.mem_of_getElem? (i := 10) rfl) (List.mem_of_getElem? (i := 5) rfl) rfl rfl ⟨by decide, by decide⟩) [] rfl (by decide) rfl rfl (Nat.le_of_ble_eq_true rfl) dX11_tray_24 ⟨by decide, by decide⟩) rfl (fun r_13 e_14 => ?_)
      rcases e_14 with ⟨z_16, h_15⟩ | ⟨z_17, h_15⟩
      · subst z_16
        refine jy_if_ne (pc' := 30) (tgt := 36) F dX11_tray_27 (by decide) rfl (fun _ => ?_) (fun h => absurd h (by decide))
        obtain ⟨tt, htt, rfl⟩ := nI_of2 (M := 3) (n := 3) rfl h_3.1 (Int32.not_lt.mp h_3.2)
        obtain ⟨mm, hmm, rfl⟩ := nI_of2 (M := 60) (n := 60) rfl h_15.1 (Int32.not_lt.mp h_15.2)
        refine jy_aload_n (pc' := 37) F 0 dX11_tray_36 rfl rfl rfl ?_
        refine jy_get (pc' := 40) (C := RX11) (T := TX11) (N := 15) (ci := 10) (v := .ref t0) F hiX11 0 rfl rfl 3 (by decide) dX11_tray_37 (List.mem_of_getElem? (i := 1) rfl) rfl rfl ?_
        refine jy_iload_n (pc' := 41) F 1 dX11_tray_40 rfl rfl rfl ?_
        refine jy_iload_n (pc' := 42) F 2 dX11_tray_41 rfl rfl rfl ?_
        refine jy_iload_n (pc' := 43) F 3 dX11_tray_42 rfl rfl rfl ?_
        refine jy_callv (pc' := 46) (cells' := 0) (slots' := 0) (wr := [(h0, .inr (10, [.int 0, .long 0, .long 1, .ref t0, .ref a2, .ref s0, .ref a4, .int 0, .ref a5, .ref a6, .ref a7, .ref a8, .ref a9, .ref a10, .int 0]))]) hA [1, 2, 3, 4] [0] rfl rfl (by decide) (by decide) (jy_runV (As := [.int (nI tt), .int i2, .int (nI mm)]) (b := t0) (q0 := 1) (ci := 8) (C := RX9) (T := TX9) (N := 3) (st := []) F hN (fun sz => c_X9_make l D k t0 t1 t2 t3 fv fs fp tt i2 mm sz (by omega) (by omega)) (jy_cV F g_c_X11_tray_c_X9_make rfl hdX9_make (List.mem_of_getElem? (i := 6) rfl) (List.mem_of_getElem? (i := 17) rfl) (List.mem_of_getElem? (i := 15) rfl) (List.mem_of_getElem? (i := 16) rfl) rfl rfl ⟨by decide, by decide⟩) rfl rfl [1, 2, 3, 4] rfl (by decide) rfl rfl (Nat.le_of_ble_eq_true rfl) dX11_tray_43 ⟨by decide, by decide⟩) rfl rfl rfl (fun u_19 e_20 => ?_)
        refine jy_aload_n (pc' := 47) F 0 dX11_tray_46 rfl rfl rfl ?_
        refine jy_calli (pc' := 50) (cells' := 0) (slots' := 0) (wr := []) hA [0] [] rfl rfl (by decide) (by decide) (jy_runV (As := []) (b := h0) (q0 := 0) (ci := 10) (C := RX11) (T := TX11) (N := 15) (st := []) F hN (fun sz => c_X11_agree l D k h0 0 (.long 0) (.long 1) (.ref t0) (.ref a2) (.ref s0) (.ref a4) (.int 0) (.ref a5) (.ref a6) (.ref a7) (.ref a8) (.ref a9) (.ref a10) (.int 0) sz ) (jy_cV F g_c_X11_tray_c_X11_agree rfl hdX11_agree (List.mem_of_getElem? (i := 4) rfl) (List.mem_of_getElem? (i := 22) rfl) (List.mem_of_getElem? (i := 20) rfl) (List.mem_of_getElem? (i := 21) rfl) rfl rfl ⟨by decide, by decide⟩) rfl rfl [0] rfl (by decide) rfl rfl (Nat.le_of_ble_eq_true rfl) dX11_tray_47 ⟨by decide, by decide⟩) rfl rfl rfl (fun r_23 u_21 e_22 => ?_)
        subst e_22
        refine jy_widen (cells' := 0) (slots' := 0) (by decide) (by decide) ?_
        exact jy_zret (v := 1) F hr hlk (by first | rfl | decide) () (Or.inl ⟨rfl, h_3.1, h_3.2, h_9.1, h_9.2, h_15.1, h_15.2⟩) [] rfl (by decide) dX11_tray_50
      · subst z_17
        refine jy_if_ne (pc' := 30) (tgt := 36) F dX11_tray_27 (by decide) rfl (fun h => absurd h (by decide)) (fun _ => ?_)
        refine jy_aload_n (pc' := 31) F 0 dX11_tray_30 rfl rfl rfl ?_
        refine jy_iconst (pc' := 32) (v := 1) F dX11_tray_31 (by decide) rfl ?_
        refine jy_calli (pc' := 35) (cells' := 0) (slots' := 0) (wr := [(t0, .inr (8, [.ref t1, .ref t2, .ref t3])), (t1, .inl (k.2.2.1, 240, .inr (.inl fv))), (t2, .inl (k.2.1, 4, .inl fs)), (t3, .inl (k.2.1, 4, .inl fp))]) hA [0] [1, 2, 3, 4] rfl rfl (by decide) (by decide) (jy_runV (As := [.int 1]) (b := h0) (q0 := 0) (ci := 10) (C := RX11) (T := TX11) (N := 15) (st := []) F hN (fun sz => c_X11_deny l D k h0 0 (.long 0) (.long 1) (.ref t0) (.ref a2) (.ref s0) (.ref a4) (.int 0) (.ref a5) (.ref a6) (.ref a7) (.ref a8) (.ref a9) (.ref a10) (.int 0) 1 sz ) (jy_cV F g_c_X11_tray_c_X11_deny rfl hdX11_deny (List.mem_of_getElem? (i := 4) rfl) (List.mem_of_getElem? (i := 26) rfl) (List.mem_of_getElem? (i := 24) rfl) (List.mem_of_getElem? (i := 25) rfl) rfl rfl ⟨by decide, by decide⟩) rfl rfl [0] rfl (by decide) rfl rfl (Nat.le_of_ble_eq_true rfl) dX11_tray_32 ⟨by decide, by decide⟩) rfl rfl rfl (fun r_27 u_25 e_26 => ?_)
        subst e_26
        refine jy_widen (cells' := 0) (slots' := 0) (by decide) (by decide) ?_
        exact jy_zret (v := 0) F hr hlk (by first | rfl | decide) () (Or.inr ⟨rfl, fun C => h_15.elim C.2.2.2.2.1 C.2.2.2.2.2⟩) [] rfl (by decide) dX11_tray_35
    · subst z_11
      refine jy_if_eq (pc' := 20) (tgt := 30) F dX11_tray_17 (by decide) rfl (fun _ => ?_) (fun h => absurd h (by decide))
      refine jy_aload_n (pc' := 31) F 0 dX11_tray_30 rfl rfl rfl ?_
      refine jy_iconst (pc' := 32) (v := 1) F dX11_tray_31 (by decide) rfl ?_
      refine jy_calli (pc' := 35) (cells' := 0) (slots' := 0) (wr := [(t0, .inr (8, [.ref t1, .ref t2, .ref t3])), (t1, .inl (k.2.2.1, 240, .inr (.inl fv))), (t2, .inl (k.2.1, 4, .inl fs)), (t3, .inl (k.2.1, 4, .inl fp))]) hA [0] [1, 2, 3, 4] rfl rfl (by decide) (by decide) (jy_runV (As := [.int 1]) (b := h0) (q0 := 0) (ci := 10) (C := RX11) (T := TX11) (N := 15) (st := []) F hN (fun sz => c_X11_deny l D k h0 0 (.long 0) (.long 1) (.ref t0) (.ref a2) (.ref s0) (.ref a4) (.int 0) (.ref a5) (.ref a6) (.ref a7) (.ref a8) (.ref a9) (.ref a10) (.int 0) 1 sz ) (jy_cV F g_c_X11_tray_c_X11_deny rfl hdX11_deny (List.mem_of_getElem? (i := 4) rfl) (List.mem_of_getElem? (i := 26) rfl) (List.mem_of_getElem? (i := 24) rfl) (List.mem_of_getElem? (i := 25) rfl) rfl rfl ⟨by decide, by decide⟩) rfl rfl [0] rfl (by decide) rfl rfl (Nat.le_of_ble_eq_true rfl) dX11_tray_32 ⟨by decide, by decide⟩) rfl rfl rfl (fun r_31 u_29 e_30 => ?_)
      subst e_30
      refine jy_widen (cells' := 0) (slots' := 0) (by decide) (by decide) ?_
      exact jy_zret (v := 0) F hr hlk (by first | rfl | decide) () (Or.inr ⟨rfl, fun C => h_9.elim C.2.2.1 C.2.2.2.1⟩) [] rfl (by decide) dX11_tray_35
  · subst z_5
    refine jy_if_eq (pc' := 11) (tgt := 30) F dX11_tray_8 (by decide) rfl (fun _ => ?_) (fun h => absurd h (by decide))
    refine jy_aload_n (pc' := 31) F 0 dX11_tray_30 rfl rfl rfl ?_
    refine jy_iconst (pc' := 32) (v := 1) F dX11_tray_31 (by decide) rfl ?_
    refine jy_calli (pc' := 35) (cells' := 0) (slots' := 0) (wr := [(t0, .inr (8, [.ref t1, .ref t2, .ref t3])), (t1, .inl (k.2.2.1, 240, .inr (.inl fv))), (t2, .inl (k.2.1, 4, .inl fs)), (t3, .inl (k.2.1, 4, .inl fp))]) hA [0] [1, 2, 3, 4] rfl rfl (by decide) (by decide) (jy_runV (As := [.int 1]) (b := h0) (q0 := 0) (ci := 10) (C := RX11) (T := TX11) (N := 15) (st := []) F hN (fun sz => c_X11_deny l D k h0 0 (.long 0) (.long 1) (.ref t0) (.ref a2) (.ref s0) (.ref a4) (.int 0) (.ref a5) (.ref a6) (.ref a7) (.ref a8) (.ref a9) (.ref a10) (.int 0) 1 sz ) (jy_cV F g_c_X11_tray_c_X11_deny rfl hdX11_deny (List.mem_of_getElem? (i := 4) rfl) (List.mem_of_getElem? (i := 26) rfl) (List.mem_of_getElem? (i := 24) rfl) (List.mem_of_getElem? (i := 25) rfl) rfl rfl ⟨by decide, by decide⟩) rfl rfl [0] rfl (by decide) rfl rfl (Nat.le_of_ble_eq_true rfl) dX11_tray_32 ⟨by decide, by decide⟩) rfl rfl rfl (fun r_35 u_33 e_34 => ?_)
    subst e_34
    refine jy_widen (cells' := 0) (slots' := 0) (by decide) (by decide) ?_
    exact jy_zret (v := 0) F hr hlk (by first | rfl | decide) () (Or.inr ⟨rfl, fun C => h_3.elim C.1 C.2.1⟩) [] rfl (by decide) dX11_tray_35
abbrev cX1_append : ByteArray := prog_3_method_2_code
def yX1_append : MethodName := ⟨RX1, "append", "(I)V"⟩
theorem hdX1_append : yX1_append.cls ≠ "java/lang/invoke/MethodHandle" ∧ yX1_append.cls ≠ "java/lang/invoke/VarHandle" ∧ (parseMethodDescriptor yX1_append.desc).map (fun d => d.parameters.length) = some 1 := by decide +kernel
theorem dX1_append_0 : decode cX1_append 0 = .ok (.bipush 24, 2) := by decide +kernel
theorem dX1_append_2 : decode cX1_append 2 = .ok (.istore_n 2, 1) := by decide +kernel
theorem dX1_append_3 : decode cX1_append 3 = .ok (.iload_n 2, 1) := by decide +kernel
theorem dX1_append_4 : decode cX1_append 4 = .ok (.ifCond .lt 42, 3) := by decide +kernel
theorem dX1_append_7 : decode cX1_append 7 = .ok (.aload_n 0, 1) := by decide +kernel
theorem dX1_append_8 : decode cX1_append 8 = .ok (.getfield 36, 3) := by decide +kernel
theorem dX1_append_11 : decode cX1_append 11 = .ok (.sipush 900, 3) := by decide +kernel
theorem dX1_append_14 : decode cX1_append 14 = .ok (.if_icmp .ge 32, 3) := by decide +kernel
theorem dX1_append_17 : decode cX1_append 17 = .ok (.aload_n 0, 1) := by decide +kernel
theorem dX1_append_18 : decode cX1_append 18 = .ok (.getfield 25, 3) := by decide +kernel
theorem dX1_append_21 : decode cX1_append 21 = .ok (.aload_n 0, 1) := by decide +kernel
theorem dX1_append_22 : decode cX1_append 22 = .ok (.getfield 36, 3) := by decide +kernel
theorem dX1_append_25 : decode cX1_append 25 = .ok (.iload_n 1, 1) := by decide +kernel
theorem dX1_append_26 : decode cX1_append 26 = .ok (.iload_n 2, 1) := by decide +kernel
theorem dX1_append_27 : decode cX1_append 27 = .ok (.ishr, 1) := by decide +kernel
theorem dX1_append_28 : decode cX1_append 28 = .ok (.i2b, 1) := by decide +kernel
theorem dX1_append_29 : decode cX1_append 29 = .ok (.bastore, 1) := by decide +kernel
theorem dX1_append_30 : decode cX1_append 30 = .ok (.aload_n 0, 1) := by decide +kernel
theorem dX1_append_31 : decode cX1_append 31 = .ok (.dup, 1) := by decide +kernel
theorem dX1_append_32 : decode cX1_append 32 = .ok (.getfield 36, 3) := by decide +kernel
theorem dX1_append_35 : decode cX1_append 35 = .ok (.iconst 1, 1) := by decide +kernel
theorem dX1_append_36 : decode cX1_append 36 = .ok (.iadd, 1) := by decide +kernel
theorem dX1_append_37 : decode cX1_append 37 = .ok (.putfield 36, 3) := by decide +kernel
theorem dX1_append_40 : decode cX1_append 40 = .ok (.iinc 2 (-8), 3) := by decide +kernel
theorem dX1_append_43 : decode cX1_append 43 = .ok (.goto (-40), 3) := by decide +kernel
theorem dX1_append_46 : decode cX1_append 46 = .ok (.return_, 1) := by decide +kernel
def ws_c_X1_append_0 : List Cond := .code yX1_append cX1_append 3 none :: ([.fieldLink "NestedChecker$Reader" 36 "NestedChecker$Reader" "taped" "I", .fieldLink "NestedChecker$Reader" 25 "NestedChecker$Reader" "tape" "[B"] ++ wsX10)
set_option maxHeartbeats 4000000 in
set_option maxRecDepth 100000 in
theorem c_X1_append_0 (l : Launch) (D : va_G) (k : jK) (a2 : Nat) (c1 : Nat) (c2 : Nat) (c3 : Nat) (c4 : Nat) (fb : Nat → Int32) (y : Int32) (sz : Nat)  : Met l yX1_append ws_c_X1_append_0 ({ frames := 0, cells := 0, slots := 0, locals := 0 }) (jy_P [.ref a2, .int y] D vwCl (jT k) jW [(a2, .inr (1, [.ref c1, .int 0, .int (-1), .int (-1), .ref c2, .int 0, .int 0, .int 0, .int 0, .int 0, .ref c3, .ref c4])), (c2, .inl (k.1, 900, .inl fb))] sz) (va_Qv (fun (u : (Nat → Int32)) => True) (jy_B D vwCl (va_A [(a2, .inr (1, [.ref c1, .int 0, .int (-1), .int (-1), .ref c2, .int 0, .int 0, .int 0, .int 0, .int 0, .ref c3, .ref c4])), (c2, .inl (k.1, 900, .inl fb))] sz) (fun (u : (Nat → Int32)) => [(a2, .inr (1, [.ref c1, .int 4, .int (-1), .int (-1), .ref c2, .int 0, .int 0, .int 0, .int 0, .int 0, .ref c3, .ref c4])), (c2, .inl (k.1, 900, .inl u))])) (va_A [(a2, .inr (1, [.ref c1, .int 0, .int (-1), .int (-1), .ref c2, .int 0, .int 0, .int 0, .int 0, .int 0, .ref c3, .ref c4])), (c2, .inl (k.1, 900, .inl fb))] sz)) 0 0 (va_A [(a2, .inr (1, [.ref c1, .int 0, .int (-1), .int (-1), .ref c2, .int 0, .int 0, .int 0, .int 0, .int 0, .ref c3, .ref c4])), (c2, .inl (k.1, 900, .inl fb))] sz) := by
  refine jy_met (cc := cX1_append) (maxL := 3) (ret := none) (lv := [(0, .ref a2), (1, .int y)]) (by decide) rfl (Nat.le_of_ble_eq_true rfl) rfl ?_
  intro p e s m below meth c F hr hlk hnm hN hA
  have hiX1 : ∀ w ∈ u_ws RX1 TX1 12, w ∈ ws_c_X1_append_0 := fun w hw => List.mem_cons_of_mem _ (List.mem_append_right _ hw)
  refine jy_bipush (pc' := 2) (v := 24) F dX1_append_0 (by decide) rfl ?_
  refine jy_istore_n (pc' := 3) (lv' := [(2, .int 24), (0, .ref a2), (1, .int y)]) F dX1_append_2 rfl (by decide) rfl rfl ?_
  refine jy_iload_n (pc' := 4) F 0 dX1_append_3 rfl rfl rfl ?_
  refine jy_if_lt (pc' := 7) (tgt := 46) F dX1_append_4 (by decide) rfl (fun h => absurd h (by decide)) (fun _ => ?_)
  refine jy_aload_n (pc' := 8) F 1 dX1_append_7 rfl rfl rfl ?_
  refine jy_get (pc' := 11) (C := RX1) (T := TX1) (N := 12) (ci := 1) (v := .int 0) F hiX1 0 rfl rfl 1 (by decide) dX1_append_8 (List.mem_of_getElem? (i := 1) rfl) rfl rfl ?_
  refine jy_sipush (pc' := 14) (v := 900) F dX1_append_11 (by decide) rfl ?_
  refine jy_icmp_ge (pc' := 17) (tgt := 46) F dX1_append_14 (by decide) rfl (fun h => absurd h (by decide)) (fun _ => ?_)
  refine jy_aload_n (pc' := 18) F 1 dX1_append_17 rfl rfl rfl ?_
  refine jy_get (pc' := 21) (C := RX1) (T := TX1) (N := 12) (ci := 1) (v := .ref c2) F hiX1 0 rfl rfl 4 (by decide) dX1_append_18 (List.mem_of_getElem? (i := 2) rfl) rfl rfl ?_
  refine jy_aload_n (pc' := 22) F 1 dX1_append_21 rfl rfl rfl ?_
  refine jy_get (pc' := 25) (C := RX1) (T := TX1) (N := 12) (ci := 1) (v := .int 0) F hiX1 0 rfl rfl 1 (by decide) dX1_append_22 (List.mem_of_getElem? (i := 1) rfl) rfl rfl ?_
  refine jy_iload_n (pc' := 26) F 2 dX1_append_25 rfl rfl rfl ?_
  refine jy_iload_n (pc' := 27) F 0 dX1_append_26 rfl rfl rfl ?_
  refine jy_ishr (pc' := 28) (v := (y >>> (24 &&& 31))) F dX1_append_27 rfl rfl ?_
  refine jy_i2b (pc' := 29) (v := (((y >>> (24 &&& 31))).toInt8.toInt32)) F dX1_append_28 rfl rfl ?_
  refine jy_bast (pc' := 30) (g := (upd fb 0 (vp_nar .byte (((y >>> (24 &&& 31))).toInt8.toInt32)))) (ws' := [(a2, .inr (1, [.ref c1, .int 0, .int (-1), .int (-1), .ref c2, .int 0, .int 0, .int 0, .int 0, .int 0, .ref c3, .ref c4])), (c2, .inl (k.1, 900, .inl (upd fb 0 (vp_nar .byte (((y >>> (24 &&& 31))).toInt8.toInt32)))))]) F 1 0 rfl rfl dX1_append_29 (vp_in_nI (n := 0) (by omega) (by omega)) rfl rfl rfl ?_
  refine jy_aload_n (pc' := 31) F 1 dX1_append_30 rfl rfl rfl ?_
  refine jy_dup (pc' := 32) F dX1_append_31 rfl rfl ?_
  refine jy_get (pc' := 35) (C := RX1) (T := TX1) (N := 12) (ci := 1) (v := .int 0) F hiX1 0 rfl rfl 1 (by decide) dX1_append_32 (List.mem_of_getElem? (i := 1) rfl) rfl rfl ?_
  refine jy_iconst (pc' := 36) (v := 1) F dX1_append_35 (by decide) rfl ?_
  refine jy_iadd (pc' := 37) (v := 1) F dX1_append_36 (by decide) rfl ?_
  refine jy_put (pc' := 40) (C := RX1) (T := TX1) (N := 12) (ci := 1) (ws' := [(a2, .inr (1, [.ref c1, .int 1, .int (-1), .int (-1), .ref c2, .int 0, .int 0, .int 0, .int 0, .int 0, .ref c3, .ref c4])), (c2, .inl (k.1, 900, .inl (upd fb 0 (vp_nar .byte (((y >>> (24 &&& 31))).toInt8.toInt32)))))]) F hiX1 tyX1 tyX1_ok nmX1 0 rfl rfl 1 (by decide) dX1_append_37 (List.mem_of_getElem? (i := 1) rfl) rfl rfl rfl rfl (Nat.le_of_ble_eq_true rfl) rfl rfl ?_
  refine jy_iinc (pc' := 43) (v := 16) (lv' := [(2, .int 16), (0, .ref a2), (1, .int y)]) F 0 dX1_append_40 rfl (by decide) (by decide) rfl rfl ?_
  refine jy_goto (tgt := 3) F dX1_append_43 (by decide) ?_
  refine jy_iload_n (pc' := 4) F 0 dX1_append_3 rfl rfl rfl ?_
  refine jy_if_lt (pc' := 7) (tgt := 46) F dX1_append_4 (by decide) rfl (fun h => absurd h (by decide)) (fun _ => ?_)
  refine jy_aload_n (pc' := 8) F 1 dX1_append_7 rfl rfl rfl ?_
  refine jy_get (pc' := 11) (C := RX1) (T := TX1) (N := 12) (ci := 1) (v := .int 1) F hiX1 0 rfl rfl 1 (by decide) dX1_append_8 (List.mem_of_getElem? (i := 1) rfl) rfl rfl ?_
  refine jy_sipush (pc' := 14) (v := 900) F dX1_append_11 (by decide) rfl ?_
  refine jy_icmp_ge (pc' := 17) (tgt := 46) F dX1_append_14 (by decide) rfl (fun h => absurd h (by decide)) (fun _ => ?_)
  refine jy_aload_n (pc' := 18) F 1 dX1_append_17 rfl rfl rfl ?_
  refine jy_get (pc' := 21) (C := RX1) (T := TX1) (N := 12) (ci := 1) (v := .ref c2) F hiX1 0 rfl rfl 4 (by decide) dX1_append_18 (List.mem_of_getElem? (i := 2) rfl) rfl rfl ?_
  refine jy_aload_n (pc' := 22) F 1 dX1_append_21 rfl rfl rfl ?_
  refine jy_get (pc' := 25) (C := RX1) (T := TX1) (N := 12) (ci := 1) (v := .int 1) F hiX1 0 rfl rfl 1 (by decide) dX1_append_22 (List.mem_of_getElem? (i := 1) rfl) rfl rfl ?_
  refine jy_iload_n (pc' := 26) F 2 dX1_append_25 rfl rfl rfl ?_
  refine jy_iload_n (pc' := 27) F 0 dX1_append_26 rfl rfl rfl ?_
  refine jy_ishr (pc' := 28) (v := (y >>> (16 &&& 31))) F dX1_append_27 rfl rfl ?_
  refine jy_i2b (pc' := 29) (v := (((y >>> (16 &&& 31))).toInt8.toInt32)) F dX1_append_28 rfl rfl ?_
  refine jy_bast (pc' := 30) (g := (upd (upd fb 0 (vp_nar .byte (((y >>> (24 &&& 31))).toInt8.toInt32))) 1 (vp_nar .byte (((y >>> (16 &&& 31))).toInt8.toInt32)))) (ws' := [(a2, .inr (1, [.ref c1, .int 1, .int (-1), .int (-1), .ref c2, .int 0, .int 0, .int 0, .int 0, .int 0, .ref c3, .ref c4])), (c2, .inl (k.1, 900, .inl (upd (upd fb 0 (vp_nar .byte (((y >>> (24 &&& 31))).toInt8.toInt32))) 1 (vp_nar .byte (((y >>> (16 &&& 31))).toInt8.toInt32)))))]) F 1 0 rfl rfl dX1_append_29 (vp_in_nI (n := 1) (by omega) (by omega)) rfl rfl rfl ?_
  refine jy_aload_n (pc' := 31) F 1 dX1_append_30 rfl rfl rfl ?_
  refine jy_dup (pc' := 32) F dX1_append_31 rfl rfl ?_
  refine jy_get (pc' := 35) (C := RX1) (T := TX1) (N := 12) (ci := 1) (v := .int 1) F hiX1 0 rfl rfl 1 (by decide) dX1_append_32 (List.mem_of_getElem? (i := 1) rfl) rfl rfl ?_
  refine jy_iconst (pc' := 36) (v := 1) F dX1_append_35 (by decide) rfl ?_
  refine jy_iadd (pc' := 37) (v := 2) F dX1_append_36 (by decide) rfl ?_
  refine jy_put (pc' := 40) (C := RX1) (T := TX1) (N := 12) (ci := 1) (ws' := [(a2, .inr (1, [.ref c1, .int 2, .int (-1), .int (-1), .ref c2, .int 0, .int 0, .int 0, .int 0, .int 0, .ref c3, .ref c4])), (c2, .inl (k.1, 900, .inl (upd (upd fb 0 (vp_nar .byte (((y >>> (24 &&& 31))).toInt8.toInt32))) 1 (vp_nar .byte (((y >>> (16 &&& 31))).toInt8.toInt32)))))]) F hiX1 tyX1 tyX1_ok nmX1 0 rfl rfl 1 (by decide) dX1_append_37 (List.mem_of_getElem? (i := 1) rfl) rfl rfl rfl rfl (Nat.le_of_ble_eq_true rfl) rfl rfl ?_
  refine jy_iinc (pc' := 43) (v := 8) (lv' := [(2, .int 8), (0, .ref a2), (1, .int y)]) F 0 dX1_append_40 rfl (by decide) (by decide) rfl rfl ?_
  refine jy_goto (tgt := 3) F dX1_append_43 (by decide) ?_
  refine jy_iload_n (pc' := 4) F 0 dX1_append_3 rfl rfl rfl ?_
  refine jy_if_lt (pc' := 7) (tgt := 46) F dX1_append_4 (by decide) rfl (fun h => absurd h (by decide)) (fun _ => ?_)
  refine jy_aload_n (pc' := 8) F 1 dX1_append_7 rfl rfl rfl ?_
  refine jy_get (pc' := 11) (C := RX1) (T := TX1) (N := 12) (ci := 1) (v := .int 2) F hiX1 0 rfl rfl 1 (by decide) dX1_append_8 (List.mem_of_getElem? (i := 1) rfl) rfl rfl ?_
  refine jy_sipush (pc' := 14) (v := 900) F dX1_append_11 (by decide) rfl ?_
  refine jy_icmp_ge (pc' := 17) (tgt := 46) F dX1_append_14 (by decide) rfl (fun h => absurd h (by decide)) (fun _ => ?_)
  refine jy_aload_n (pc' := 18) F 1 dX1_append_17 rfl rfl rfl ?_
  refine jy_get (pc' := 21) (C := RX1) (T := TX1) (N := 12) (ci := 1) (v := .ref c2) F hiX1 0 rfl rfl 4 (by decide) dX1_append_18 (List.mem_of_getElem? (i := 2) rfl) rfl rfl ?_
  refine jy_aload_n (pc' := 22) F 1 dX1_append_21 rfl rfl rfl ?_
  refine jy_get (pc' := 25) (C := RX1) (T := TX1) (N := 12) (ci := 1) (v := .int 2) F hiX1 0 rfl rfl 1 (by decide) dX1_append_22 (List.mem_of_getElem? (i := 1) rfl) rfl rfl ?_
  refine jy_iload_n (pc' := 26) F 2 dX1_append_25 rfl rfl rfl ?_
  refine jy_iload_n (pc' := 27) F 0 dX1_append_26 rfl rfl rfl ?_
  refine jy_ishr (pc' := 28) (v := (y >>> (8 &&& 31))) F dX1_append_27 rfl rfl ?_
  refine jy_i2b (pc' := 29) (v := (((y >>> (8 &&& 31))).toInt8.toInt32)) F dX1_append_28 rfl rfl ?_
  refine jy_bast (pc' := 30) (g := (upd (upd (upd fb 0 (vp_nar .byte (((y >>> (24 &&& 31))).toInt8.toInt32))) 1 (vp_nar .byte (((y >>> (16 &&& 31))).toInt8.toInt32))) 2 (vp_nar .byte (((y >>> (8 &&& 31))).toInt8.toInt32)))) (ws' := [(a2, .inr (1, [.ref c1, .int 2, .int (-1), .int (-1), .ref c2, .int 0, .int 0, .int 0, .int 0, .int 0, .ref c3, .ref c4])), (c2, .inl (k.1, 900, .inl (upd (upd (upd fb 0 (vp_nar .byte (((y >>> (24 &&& 31))).toInt8.toInt32))) 1 (vp_nar .byte (((y >>> (16 &&& 31))).toInt8.toInt32))) 2 (vp_nar .byte (((y >>> (8 &&& 31))).toInt8.toInt32)))))]) F 1 0 rfl rfl dX1_append_29 (vp_in_nI (n := 2) (by omega) (by omega)) rfl rfl rfl ?_
  refine jy_aload_n (pc' := 31) F 1 dX1_append_30 rfl rfl rfl ?_
  refine jy_dup (pc' := 32) F dX1_append_31 rfl rfl ?_
  refine jy_get (pc' := 35) (C := RX1) (T := TX1) (N := 12) (ci := 1) (v := .int 2) F hiX1 0 rfl rfl 1 (by decide) dX1_append_32 (List.mem_of_getElem? (i := 1) rfl) rfl rfl ?_
  refine jy_iconst (pc' := 36) (v := 1) F dX1_append_35 (by decide) rfl ?_
  refine jy_iadd (pc' := 37) (v := 3) F dX1_append_36 (by decide) rfl ?_
  refine jy_put (pc' := 40) (C := RX1) (T := TX1) (N := 12) (ci := 1) (ws' := [(a2, .inr (1, [.ref c1, .int 3, .int (-1), .int (-1), .ref c2, .int 0, .int 0, .int 0, .int 0, .int 0, .ref c3, .ref c4])), (c2, .inl (k.1, 900, .inl (upd (upd (upd fb 0 (vp_nar .byte (((y >>> (24 &&& 31))).toInt8.toInt32))) 1 (vp_nar .byte (((y >>> (16 &&& 31))).toInt8.toInt32))) 2 (vp_nar .byte (((y >>> (8 &&& 31))).toInt8.toInt32)))))]) F hiX1 tyX1 tyX1_ok nmX1 0 rfl rfl 1 (by decide) dX1_append_37 (List.mem_of_getElem? (i := 1) rfl) rfl rfl rfl rfl (Nat.le_of_ble_eq_true rfl) rfl rfl ?_
  refine jy_iinc (pc' := 43) (v := 0) (lv' := [(2, .int 0), (0, .ref a2), (1, .int y)]) F 0 dX1_append_40 rfl (by decide) (by decide) rfl rfl ?_
  refine jy_goto (tgt := 3) F dX1_append_43 (by decide) ?_
  refine jy_iload_n (pc' := 4) F 0 dX1_append_3 rfl rfl rfl ?_
  refine jy_if_lt (pc' := 7) (tgt := 46) F dX1_append_4 (by decide) rfl (fun h => absurd h (by decide)) (fun _ => ?_)
  refine jy_aload_n (pc' := 8) F 1 dX1_append_7 rfl rfl rfl ?_
  refine jy_get (pc' := 11) (C := RX1) (T := TX1) (N := 12) (ci := 1) (v := .int 3) F hiX1 0 rfl rfl 1 (by decide) dX1_append_8 (List.mem_of_getElem? (i := 1) rfl) rfl rfl ?_
  refine jy_sipush (pc' := 14) (v := 900) F dX1_append_11 (by decide) rfl ?_
  refine jy_icmp_ge (pc' := 17) (tgt := 46) F dX1_append_14 (by decide) rfl (fun h => absurd h (by decide)) (fun _ => ?_)
  refine jy_aload_n (pc' := 18) F 1 dX1_append_17 rfl rfl rfl ?_
  refine jy_get (pc' := 21) (C := RX1) (T := TX1) (N := 12) (ci := 1) (v := .ref c2) F hiX1 0 rfl rfl 4 (by decide) dX1_append_18 (List.mem_of_getElem? (i := 2) rfl) rfl rfl ?_
  refine jy_aload_n (pc' := 22) F 1 dX1_append_21 rfl rfl rfl ?_
  refine jy_get (pc' := 25) (C := RX1) (T := TX1) (N := 12) (ci := 1) (v := .int 3) F hiX1 0 rfl rfl 1 (by decide) dX1_append_22 (List.mem_of_getElem? (i := 1) rfl) rfl rfl ?_
  refine jy_iload_n (pc' := 26) F 2 dX1_append_25 rfl rfl rfl ?_
  refine jy_iload_n (pc' := 27) F 0 dX1_append_26 rfl rfl rfl ?_
  refine jy_ishr (pc' := 28) (v := (y >>> (0 &&& 31))) F dX1_append_27 rfl rfl ?_
  refine jy_i2b (pc' := 29) (v := (((y >>> (0 &&& 31))).toInt8.toInt32)) F dX1_append_28 rfl rfl ?_
  refine jy_bast (pc' := 30) (g := (upd (upd (upd (upd fb 0 (vp_nar .byte (((y >>> (24 &&& 31))).toInt8.toInt32))) 1 (vp_nar .byte (((y >>> (16 &&& 31))).toInt8.toInt32))) 2 (vp_nar .byte (((y >>> (8 &&& 31))).toInt8.toInt32))) 3 (vp_nar .byte (((y >>> (0 &&& 31))).toInt8.toInt32)))) (ws' := [(a2, .inr (1, [.ref c1, .int 3, .int (-1), .int (-1), .ref c2, .int 0, .int 0, .int 0, .int 0, .int 0, .ref c3, .ref c4])), (c2, .inl (k.1, 900, .inl (upd (upd (upd (upd fb 0 (vp_nar .byte (((y >>> (24 &&& 31))).toInt8.toInt32))) 1 (vp_nar .byte (((y >>> (16 &&& 31))).toInt8.toInt32))) 2 (vp_nar .byte (((y >>> (8 &&& 31))).toInt8.toInt32))) 3 (vp_nar .byte (((y >>> (0 &&& 31))).toInt8.toInt32)))))]) F 1 0 rfl rfl dX1_append_29 (vp_in_nI (n := 3) (by omega) (by omega)) rfl rfl rfl ?_
  refine jy_aload_n (pc' := 31) F 1 dX1_append_30 rfl rfl rfl ?_
  refine jy_dup (pc' := 32) F dX1_append_31 rfl rfl ?_
  refine jy_get (pc' := 35) (C := RX1) (T := TX1) (N := 12) (ci := 1) (v := .int 3) F hiX1 0 rfl rfl 1 (by decide) dX1_append_32 (List.mem_of_getElem? (i := 1) rfl) rfl rfl ?_
  refine jy_iconst (pc' := 36) (v := 1) F dX1_append_35 (by decide) rfl ?_
  refine jy_iadd (pc' := 37) (v := 4) F dX1_append_36 (by decide) rfl ?_
  refine jy_put (pc' := 40) (C := RX1) (T := TX1) (N := 12) (ci := 1) (ws' := [(a2, .inr (1, [.ref c1, .int 4, .int (-1), .int (-1), .ref c2, .int 0, .int 0, .int 0, .int 0, .int 0, .ref c3, .ref c4])), (c2, .inl (k.1, 900, .inl (upd (upd (upd (upd fb 0 (vp_nar .byte (((y >>> (24 &&& 31))).toInt8.toInt32))) 1 (vp_nar .byte (((y >>> (16 &&& 31))).toInt8.toInt32))) 2 (vp_nar .byte (((y >>> (8 &&& 31))).toInt8.toInt32))) 3 (vp_nar .byte (((y >>> (0 &&& 31))).toInt8.toInt32)))))]) F hiX1 tyX1 tyX1_ok nmX1 0 rfl rfl 1 (by decide) dX1_append_37 (List.mem_of_getElem? (i := 1) rfl) rfl rfl rfl rfl (Nat.le_of_ble_eq_true rfl) rfl rfl ?_
  refine jy_iinc (pc' := 43) (v := (-8)) (lv' := [(2, .int (-8)), (0, .ref a2), (1, .int y)]) F 0 dX1_append_40 rfl (by decide) (by decide) rfl rfl ?_
  refine jy_goto (tgt := 3) F dX1_append_43 (by decide) ?_
  refine jy_iload_n (pc' := 4) F 0 dX1_append_3 rfl rfl rfl ?_
  refine jy_if_lt (pc' := 7) (tgt := 46) F dX1_append_4 (by decide) rfl (fun _ => ?_) (fun h => absurd h (by decide))
  refine jy_widen (cells' := 0) (slots' := 0) (by decide) (by decide) ?_
  exact jy_vret F hr hlk ((upd (upd (upd (upd fb 0 (vp_nar .byte (((y >>> (24 &&& 31))).toInt8.toInt32))) 1 (vp_nar .byte (((y >>> (16 &&& 31))).toInt8.toInt32))) 2 (vp_nar .byte (((y >>> (8 &&& 31))).toInt8.toInt32))) 3 (vp_nar .byte (((y >>> (0 &&& 31))).toInt8.toInt32)))) (trivial) [0, 1] rfl (by decide) dX1_append_46
def ws_c_X1_append_4 : List Cond := .code yX1_append cX1_append 3 none :: ([.fieldLink "NestedChecker$Reader" 36 "NestedChecker$Reader" "taped" "I", .fieldLink "NestedChecker$Reader" 25 "NestedChecker$Reader" "tape" "[B"] ++ wsX10)
set_option maxHeartbeats 4000000 in
set_option maxRecDepth 100000 in
theorem c_X1_append_4 (l : Launch) (D : va_G) (k : jK) (a2 : Nat) (c1 : Nat) (c2 : Nat) (c3 : Nat) (c4 : Nat) (fb : Nat → Int32) (y : Int32) (sz : Nat)  : Met l yX1_append ws_c_X1_append_4 ({ frames := 0, cells := 0, slots := 0, locals := 0 }) (jy_P [.ref a2, .int y] D vwCl (jT k) jW [(a2, .inr (1, [.ref c1, .int 4, .int (-1), .int (-1), .ref c2, .int 0, .int 0, .int 0, .int 0, .int 0, .ref c3, .ref c4])), (c2, .inl (k.1, 900, .inl fb))] sz) (va_Qv (fun (u : (Nat → Int32)) => True) (jy_B D vwCl (va_A [(a2, .inr (1, [.ref c1, .int 4, .int (-1), .int (-1), .ref c2, .int 0, .int 0, .int 0, .int 0, .int 0, .ref c3, .ref c4])), (c2, .inl (k.1, 900, .inl fb))] sz) (fun (u : (Nat → Int32)) => [(a2, .inr (1, [.ref c1, .int 8, .int (-1), .int (-1), .ref c2, .int 0, .int 0, .int 0, .int 0, .int 0, .ref c3, .ref c4])), (c2, .inl (k.1, 900, .inl u))])) (va_A [(a2, .inr (1, [.ref c1, .int 4, .int (-1), .int (-1), .ref c2, .int 0, .int 0, .int 0, .int 0, .int 0, .ref c3, .ref c4])), (c2, .inl (k.1, 900, .inl fb))] sz)) 0 0 (va_A [(a2, .inr (1, [.ref c1, .int 4, .int (-1), .int (-1), .ref c2, .int 0, .int 0, .int 0, .int 0, .int 0, .ref c3, .ref c4])), (c2, .inl (k.1, 900, .inl fb))] sz) := by
  refine jy_met (cc := cX1_append) (maxL := 3) (ret := none) (lv := [(0, .ref a2), (1, .int y)]) (by decide) rfl (Nat.le_of_ble_eq_true rfl) rfl ?_
  intro p e s m below meth c F hr hlk hnm hN hA
  have hiX1 : ∀ w ∈ u_ws RX1 TX1 12, w ∈ ws_c_X1_append_4 := fun w hw => List.mem_cons_of_mem _ (List.mem_append_right _ hw)
  refine jy_bipush (pc' := 2) (v := 24) F dX1_append_0 (by decide) rfl ?_
  refine jy_istore_n (pc' := 3) (lv' := [(2, .int 24), (0, .ref a2), (1, .int y)]) F dX1_append_2 rfl (by decide) rfl rfl ?_
  refine jy_iload_n (pc' := 4) F 0 dX1_append_3 rfl rfl rfl ?_
  refine jy_if_lt (pc' := 7) (tgt := 46) F dX1_append_4 (by decide) rfl (fun h => absurd h (by decide)) (fun _ => ?_)
  refine jy_aload_n (pc' := 8) F 1 dX1_append_7 rfl rfl rfl ?_
  refine jy_get (pc' := 11) (C := RX1) (T := TX1) (N := 12) (ci := 1) (v := .int 4) F hiX1 0 rfl rfl 1 (by decide) dX1_append_8 (List.mem_of_getElem? (i := 1) rfl) rfl rfl ?_
  refine jy_sipush (pc' := 14) (v := 900) F dX1_append_11 (by decide) rfl ?_
  refine jy_icmp_ge (pc' := 17) (tgt := 46) F dX1_append_14 (by decide) rfl (fun h => absurd h (by decide)) (fun _ => ?_)
  refine jy_aload_n (pc' := 18) F 1 dX1_append_17 rfl rfl rfl ?_
  refine jy_get (pc' := 21) (C := RX1) (T := TX1) (N := 12) (ci := 1) (v := .ref c2) F hiX1 0 rfl rfl 4 (by decide) dX1_append_18 (List.mem_of_getElem? (i := 2) rfl) rfl rfl ?_
  refine jy_aload_n (pc' := 22) F 1 dX1_append_21 rfl rfl rfl ?_
  refine jy_get (pc' := 25) (C := RX1) (T := TX1) (N := 12) (ci := 1) (v := .int 4) F hiX1 0 rfl rfl 1 (by decide) dX1_append_22 (List.mem_of_getElem? (i := 1) rfl) rfl rfl ?_
  refine jy_iload_n (pc' := 26) F 2 dX1_append_25 rfl rfl rfl ?_
  refine jy_iload_n (pc' := 27) F 0 dX1_append_26 rfl rfl rfl ?_
  refine jy_ishr (pc' := 28) (v := (y >>> (24 &&& 31))) F dX1_append_27 rfl rfl ?_
  refine jy_i2b (pc' := 29) (v := (((y >>> (24 &&& 31))).toInt8.toInt32)) F dX1_append_28 rfl rfl ?_
  refine jy_bast (pc' := 30) (g := (upd fb 4 (vp_nar .byte (((y >>> (24 &&& 31))).toInt8.toInt32)))) (ws' := [(a2, .inr (1, [.ref c1, .int 4, .int (-1), .int (-1), .ref c2, .int 0, .int 0, .int 0, .int 0, .int 0, .ref c3, .ref c4])), (c2, .inl (k.1, 900, .inl (upd fb 4 (vp_nar .byte (((y >>> (24 &&& 31))).toInt8.toInt32)))))]) F 1 0 rfl rfl dX1_append_29 (vp_in_nI (n := 4) (by omega) (by omega)) rfl rfl rfl ?_
  refine jy_aload_n (pc' := 31) F 1 dX1_append_30 rfl rfl rfl ?_
  refine jy_dup (pc' := 32) F dX1_append_31 rfl rfl ?_
  refine jy_get (pc' := 35) (C := RX1) (T := TX1) (N := 12) (ci := 1) (v := .int 4) F hiX1 0 rfl rfl 1 (by decide) dX1_append_32 (List.mem_of_getElem? (i := 1) rfl) rfl rfl ?_
  refine jy_iconst (pc' := 36) (v := 1) F dX1_append_35 (by decide) rfl ?_
  refine jy_iadd (pc' := 37) (v := 5) F dX1_append_36 (by decide) rfl ?_
  refine jy_put (pc' := 40) (C := RX1) (T := TX1) (N := 12) (ci := 1) (ws' := [(a2, .inr (1, [.ref c1, .int 5, .int (-1), .int (-1), .ref c2, .int 0, .int 0, .int 0, .int 0, .int 0, .ref c3, .ref c4])), (c2, .inl (k.1, 900, .inl (upd fb 4 (vp_nar .byte (((y >>> (24 &&& 31))).toInt8.toInt32)))))]) F hiX1 tyX1 tyX1_ok nmX1 0 rfl rfl 1 (by decide) dX1_append_37 (List.mem_of_getElem? (i := 1) rfl) rfl rfl rfl rfl (Nat.le_of_ble_eq_true rfl) rfl rfl ?_
  refine jy_iinc (pc' := 43) (v := 16) (lv' := [(2, .int 16), (0, .ref a2), (1, .int y)]) F 0 dX1_append_40 rfl (by decide) (by decide) rfl rfl ?_
  refine jy_goto (tgt := 3) F dX1_append_43 (by decide) ?_
  refine jy_iload_n (pc' := 4) F 0 dX1_append_3 rfl rfl rfl ?_
  refine jy_if_lt (pc' := 7) (tgt := 46) F dX1_append_4 (by decide) rfl (fun h => absurd h (by decide)) (fun _ => ?_)
  refine jy_aload_n (pc' := 8) F 1 dX1_append_7 rfl rfl rfl ?_
  refine jy_get (pc' := 11) (C := RX1) (T := TX1) (N := 12) (ci := 1) (v := .int 5) F hiX1 0 rfl rfl 1 (by decide) dX1_append_8 (List.mem_of_getElem? (i := 1) rfl) rfl rfl ?_
  refine jy_sipush (pc' := 14) (v := 900) F dX1_append_11 (by decide) rfl ?_
  refine jy_icmp_ge (pc' := 17) (tgt := 46) F dX1_append_14 (by decide) rfl (fun h => absurd h (by decide)) (fun _ => ?_)
  refine jy_aload_n (pc' := 18) F 1 dX1_append_17 rfl rfl rfl ?_
  refine jy_get (pc' := 21) (C := RX1) (T := TX1) (N := 12) (ci := 1) (v := .ref c2) F hiX1 0 rfl rfl 4 (by decide) dX1_append_18 (List.mem_of_getElem? (i := 2) rfl) rfl rfl ?_
  refine jy_aload_n (pc' := 22) F 1 dX1_append_21 rfl rfl rfl ?_
  refine jy_get (pc' := 25) (C := RX1) (T := TX1) (N := 12) (ci := 1) (v := .int 5) F hiX1 0 rfl rfl 1 (by decide) dX1_append_22 (List.mem_of_getElem? (i := 1) rfl) rfl rfl ?_
  refine jy_iload_n (pc' := 26) F 2 dX1_append_25 rfl rfl rfl ?_
  refine jy_iload_n (pc' := 27) F 0 dX1_append_26 rfl rfl rfl ?_
  refine jy_ishr (pc' := 28) (v := (y >>> (16 &&& 31))) F dX1_append_27 rfl rfl ?_
  refine jy_i2b (pc' := 29) (v := (((y >>> (16 &&& 31))).toInt8.toInt32)) F dX1_append_28 rfl rfl ?_
  refine jy_bast (pc' := 30) (g := (upd (upd fb 4 (vp_nar .byte (((y >>> (24 &&& 31))).toInt8.toInt32))) 5 (vp_nar .byte (((y >>> (16 &&& 31))).toInt8.toInt32)))) (ws' := [(a2, .inr (1, [.ref c1, .int 5, .int (-1), .int (-1), .ref c2, .int 0, .int 0, .int 0, .int 0, .int 0, .ref c3, .ref c4])), (c2, .inl (k.1, 900, .inl (upd (upd fb 4 (vp_nar .byte (((y >>> (24 &&& 31))).toInt8.toInt32))) 5 (vp_nar .byte (((y >>> (16 &&& 31))).toInt8.toInt32)))))]) F 1 0 rfl rfl dX1_append_29 (vp_in_nI (n := 5) (by omega) (by omega)) rfl rfl rfl ?_
  refine jy_aload_n (pc' := 31) F 1 dX1_append_30 rfl rfl rfl ?_
  refine jy_dup (pc' := 32) F dX1_append_31 rfl rfl ?_
  refine jy_get (pc' := 35) (C := RX1) (T := TX1) (N := 12) (ci := 1) (v := .int 5) F hiX1 0 rfl rfl 1 (by decide) dX1_append_32 (List.mem_of_getElem? (i := 1) rfl) rfl rfl ?_
  refine jy_iconst (pc' := 36) (v := 1) F dX1_append_35 (by decide) rfl ?_
  refine jy_iadd (pc' := 37) (v := 6) F dX1_append_36 (by decide) rfl ?_
  refine jy_put (pc' := 40) (C := RX1) (T := TX1) (N := 12) (ci := 1) (ws' := [(a2, .inr (1, [.ref c1, .int 6, .int (-1), .int (-1), .ref c2, .int 0, .int 0, .int 0, .int 0, .int 0, .ref c3, .ref c4])), (c2, .inl (k.1, 900, .inl (upd (upd fb 4 (vp_nar .byte (((y >>> (24 &&& 31))).toInt8.toInt32))) 5 (vp_nar .byte (((y >>> (16 &&& 31))).toInt8.toInt32)))))]) F hiX1 tyX1 tyX1_ok nmX1 0 rfl rfl 1 (by decide) dX1_append_37 (List.mem_of_getElem? (i := 1) rfl) rfl rfl rfl rfl (Nat.le_of_ble_eq_true rfl) rfl rfl ?_
  refine jy_iinc (pc' := 43) (v := 8) (lv' := [(2, .int 8), (0, .ref a2), (1, .int y)]) F 0 dX1_append_40 rfl (by decide) (by decide) rfl rfl ?_
  refine jy_goto (tgt := 3) F dX1_append_43 (by decide) ?_
  refine jy_iload_n (pc' := 4) F 0 dX1_append_3 rfl rfl rfl ?_
  refine jy_if_lt (pc' := 7) (tgt := 46) F dX1_append_4 (by decide) rfl (fun h => absurd h (by decide)) (fun _ => ?_)
  refine jy_aload_n (pc' := 8) F 1 dX1_append_7 rfl rfl rfl ?_
  refine jy_get (pc' := 11) (C := RX1) (T := TX1) (N := 12) (ci := 1) (v := .int 6) F hiX1 0 rfl rfl 1 (by decide) dX1_append_8 (List.mem_of_getElem? (i := 1) rfl) rfl rfl ?_
  refine jy_sipush (pc' := 14) (v := 900) F dX1_append_11 (by decide) rfl ?_
  refine jy_icmp_ge (pc' := 17) (tgt := 46) F dX1_append_14 (by decide) rfl (fun h => absurd h (by decide)) (fun _ => ?_)
  refine jy_aload_n (pc' := 18) F 1 dX1_append_17 rfl rfl rfl ?_
  refine jy_get (pc' := 21) (C := RX1) (T := TX1) (N := 12) (ci := 1) (v := .ref c2) F hiX1 0 rfl rfl 4 (by decide) dX1_append_18 (List.mem_of_getElem? (i := 2) rfl) rfl rfl ?_
  refine jy_aload_n (pc' := 22) F 1 dX1_append_21 rfl rfl rfl ?_
  refine jy_get (pc' := 25) (C := RX1) (T := TX1) (N := 12) (ci := 1) (v := .int 6) F hiX1 0 rfl rfl 1 (by decide) dX1_append_22 (List.mem_of_getElem? (i := 1) rfl) rfl rfl ?_
  refine jy_iload_n (pc' := 26) F 2 dX1_append_25 rfl rfl rfl ?_
  refine jy_iload_n (pc' := 27) F 0 dX1_append_26 rfl rfl rfl ?_
  refine jy_ishr (pc' := 28) (v := (y >>> (8 &&& 31))) F dX1_append_27 rfl rfl ?_
  refine jy_i2b (pc' := 29) (v := (((y >>> (8 &&& 31))).toInt8.toInt32)) F dX1_append_28 rfl rfl ?_
  refine jy_bast (pc' := 30) (g := (upd (upd (upd fb 4 (vp_nar .byte (((y >>> (24 &&& 31))).toInt8.toInt32))) 5 (vp_nar .byte (((y >>> (16 &&& 31))).toInt8.toInt32))) 6 (vp_nar .byte (((y >>> (8 &&& 31))).toInt8.toInt32)))) (ws' := [(a2, .inr (1, [.ref c1, .int 6, .int (-1), .int (-1), .ref c2, .int 0, .int 0, .int 0, .int 0, .int 0, .ref c3, .ref c4])), (c2, .inl (k.1, 900, .inl (upd (upd (upd fb 4 (vp_nar .byte (((y >>> (24 &&& 31))).toInt8.toInt32))) 5 (vp_nar .byte (((y >>> (16 &&& 31))).toInt8.toInt32))) 6 (vp_nar .byte (((y >>> (8 &&& 31))).toInt8.toInt32)))))]) F 1 0 rfl rfl dX1_append_29 (vp_in_nI (n := 6) (by omega) (by omega)) rfl rfl rfl ?_
  refine jy_aload_n (pc' := 31) F 1 dX1_append_30 rfl rfl rfl ?_
  refine jy_dup (pc' := 32) F dX1_append_31 rfl rfl ?_
  refine jy_get (pc' := 35) (C := RX1) (T := TX1) (N := 12) (ci := 1) (v := .int 6) F hiX1 0 rfl rfl 1 (by decide) dX1_append_32 (List.mem_of_getElem? (i := 1) rfl) rfl rfl ?_
  refine jy_iconst (pc' := 36) (v := 1) F dX1_append_35 (by decide) rfl ?_
  refine jy_iadd (pc' := 37) (v := 7) F dX1_append_36 (by decide) rfl ?_
  refine jy_put (pc' := 40) (C := RX1) (T := TX1) (N := 12) (ci := 1) (ws' := [(a2, .inr (1, [.ref c1, .int 7, .int (-1), .int (-1), .ref c2, .int 0, .int 0, .int 0, .int 0, .int 0, .ref c3, .ref c4])), (c2, .inl (k.1, 900, .inl (upd (upd (upd fb 4 (vp_nar .byte (((y >>> (24 &&& 31))).toInt8.toInt32))) 5 (vp_nar .byte (((y >>> (16 &&& 31))).toInt8.toInt32))) 6 (vp_nar .byte (((y >>> (8 &&& 31))).toInt8.toInt32)))))]) F hiX1 tyX1 tyX1_ok nmX1 0 rfl rfl 1 (by decide) dX1_append_37 (List.mem_of_getElem? (i := 1) rfl) rfl rfl rfl rfl (Nat.le_of_ble_eq_true rfl) rfl rfl ?_
  refine jy_iinc (pc' := 43) (v := 0) (lv' := [(2, .int 0), (0, .ref a2), (1, .int y)]) F 0 dX1_append_40 rfl (by decide) (by decide) rfl rfl ?_
  refine jy_goto (tgt := 3) F dX1_append_43 (by decide) ?_
  refine jy_iload_n (pc' := 4) F 0 dX1_append_3 rfl rfl rfl ?_
  refine jy_if_lt (pc' := 7) (tgt := 46) F dX1_append_4 (by decide) rfl (fun h => absurd h (by decide)) (fun _ => ?_)
  refine jy_aload_n (pc' := 8) F 1 dX1_append_7 rfl rfl rfl ?_
  refine jy_get (pc' := 11) (C := RX1) (T := TX1) (N := 12) (ci := 1) (v := .int 7) F hiX1 0 rfl rfl 1 (by decide) dX1_append_8 (List.mem_of_getElem? (i := 1) rfl) rfl rfl ?_
  refine jy_sipush (pc' := 14) (v := 900) F dX1_append_11 (by decide) rfl ?_
  refine jy_icmp_ge (pc' := 17) (tgt := 46) F dX1_append_14 (by decide) rfl (fun h => absurd h (by decide)) (fun _ => ?_)
  refine jy_aload_n (pc' := 18) F 1 dX1_append_17 rfl rfl rfl ?_
  refine jy_get (pc' := 21) (C := RX1) (T := TX1) (N := 12) (ci := 1) (v := .ref c2) F hiX1 0 rfl rfl 4 (by decide) dX1_append_18 (List.mem_of_getElem? (i := 2) rfl) rfl rfl ?_
  refine jy_aload_n (pc' := 22) F 1 dX1_append_21 rfl rfl rfl ?_
  refine jy_get (pc' := 25) (C := RX1) (T := TX1) (N := 12) (ci := 1) (v := .int 7) F hiX1 0 rfl rfl 1 (by decide) dX1_append_22 (List.mem_of_getElem? (i := 1) rfl) rfl rfl ?_
  refine jy_iload_n (pc' := 26) F 2 dX1_append_25 rfl rfl rfl ?_
  refine jy_iload_n (pc' := 27) F 0 dX1_append_26 rfl rfl rfl ?_
  refine jy_ishr (pc' := 28) (v := (y >>> (0 &&& 31))) F dX1_append_27 rfl rfl ?_
  refine jy_i2b (pc' := 29) (v := (((y >>> (0 &&& 31))).toInt8.toInt32)) F dX1_append_28 rfl rfl ?_
  refine jy_bast (pc' := 30) (g := (upd (upd (upd (upd fb 4 (vp_nar .byte (((y >>> (24 &&& 31))).toInt8.toInt32))) 5 (vp_nar .byte (((y >>> (16 &&& 31))).toInt8.toInt32))) 6 (vp_nar .byte (((y >>> (8 &&& 31))).toInt8.toInt32))) 7 (vp_nar .byte (((y >>> (0 &&& 31))).toInt8.toInt32)))) (ws' := [(a2, .inr (1, [.ref c1, .int 7, .int (-1), .int (-1), .ref c2, .int 0, .int 0, .int 0, .int 0, .int 0, .ref c3, .ref c4])), (c2, .inl (k.1, 900, .inl (upd (upd (upd (upd fb 4 (vp_nar .byte (((y >>> (24 &&& 31))).toInt8.toInt32))) 5 (vp_nar .byte (((y >>> (16 &&& 31))).toInt8.toInt32))) 6 (vp_nar .byte (((y >>> (8 &&& 31))).toInt8.toInt32))) 7 (vp_nar .byte (((y >>> (0 &&& 31))).toInt8.toInt32)))))]) F 1 0 rfl rfl dX1_append_29 (vp_in_nI (n := 7) (by omega) (by omega)) rfl rfl rfl ?_
  refine jy_aload_n (pc' := 31) F 1 dX1_append_30 rfl rfl rfl ?_
  refine jy_dup (pc' := 32) F dX1_append_31 rfl rfl ?_
  refine jy_get (pc' := 35) (C := RX1) (T := TX1) (N := 12) (ci := 1) (v := .int 7) F hiX1 0 rfl rfl 1 (by decide) dX1_append_32 (List.mem_of_getElem? (i := 1) rfl) rfl rfl ?_
  refine jy_iconst (pc' := 36) (v := 1) F dX1_append_35 (by decide) rfl ?_
  refine jy_iadd (pc' := 37) (v := 8) F dX1_append_36 (by decide) rfl ?_
  refine jy_put (pc' := 40) (C := RX1) (T := TX1) (N := 12) (ci := 1) (ws' := [(a2, .inr (1, [.ref c1, .int 8, .int (-1), .int (-1), .ref c2, .int 0, .int 0, .int 0, .int 0, .int 0, .ref c3, .ref c4])), (c2, .inl (k.1, 900, .inl (upd (upd (upd (upd fb 4 (vp_nar .byte (((y >>> (24 &&& 31))).toInt8.toInt32))) 5 (vp_nar .byte (((y >>> (16 &&& 31))).toInt8.toInt32))) 6 (vp_nar .byte (((y >>> (8 &&& 31))).toInt8.toInt32))) 7 (vp_nar .byte (((y >>> (0 &&& 31))).toInt8.toInt32)))))]) F hiX1 tyX1 tyX1_ok nmX1 0 rfl rfl 1 (by decide) dX1_append_37 (List.mem_of_getElem? (i := 1) rfl) rfl rfl rfl rfl (Nat.le_of_ble_eq_true rfl) rfl rfl ?_
  refine jy_iinc (pc' := 43) (v := (-8)) (lv' := [(2, .int (-8)), (0, .ref a2), (1, .int y)]) F 0 dX1_append_40 rfl (by decide) (by decide) rfl rfl ?_
  refine jy_goto (tgt := 3) F dX1_append_43 (by decide) ?_
  refine jy_iload_n (pc' := 4) F 0 dX1_append_3 rfl rfl rfl ?_
  refine jy_if_lt (pc' := 7) (tgt := 46) F dX1_append_4 (by decide) rfl (fun _ => ?_) (fun h => absurd h (by decide))
  refine jy_widen (cells' := 0) (slots' := 0) (by decide) (by decide) ?_
  exact jy_vret F hr hlk ((upd (upd (upd (upd fb 4 (vp_nar .byte (((y >>> (24 &&& 31))).toInt8.toInt32))) 5 (vp_nar .byte (((y >>> (16 &&& 31))).toInt8.toInt32))) 6 (vp_nar .byte (((y >>> (8 &&& 31))).toInt8.toInt32))) 7 (vp_nar .byte (((y >>> (0 &&& 31))).toInt8.toInt32)))) (trivial) [0, 1] rfl (by decide) dX1_append_46
def ws_c_X1_append_8 : List Cond := .code yX1_append cX1_append 3 none :: ([.fieldLink "NestedChecker$Reader" 36 "NestedChecker$Reader" "taped" "I", .fieldLink "NestedChecker$Reader" 25 "NestedChecker$Reader" "tape" "[B"] ++ wsX10)
set_option maxHeartbeats 4000000 in
set_option maxRecDepth 100000 in
theorem c_X1_append_8 (l : Launch) (D : va_G) (k : jK) (a2 : Nat) (c1 : Nat) (c2 : Nat) (c3 : Nat) (c4 : Nat) (fb : Nat → Int32) (y : Int32) (sz : Nat)  : Met l yX1_append ws_c_X1_append_8 ({ frames := 0, cells := 0, slots := 0, locals := 0 }) (jy_P [.ref a2, .int y] D vwCl (jT k) jW [(a2, .inr (1, [.ref c1, .int 8, .int (-1), .int (-1), .ref c2, .int 0, .int 0, .int 0, .int 0, .int 0, .ref c3, .ref c4])), (c2, .inl (k.1, 900, .inl fb))] sz) (va_Qv (fun (u : (Nat → Int32)) => True) (jy_B D vwCl (va_A [(a2, .inr (1, [.ref c1, .int 8, .int (-1), .int (-1), .ref c2, .int 0, .int 0, .int 0, .int 0, .int 0, .ref c3, .ref c4])), (c2, .inl (k.1, 900, .inl fb))] sz) (fun (u : (Nat → Int32)) => [(a2, .inr (1, [.ref c1, .int 12, .int (-1), .int (-1), .ref c2, .int 0, .int 0, .int 0, .int 0, .int 0, .ref c3, .ref c4])), (c2, .inl (k.1, 900, .inl u))])) (va_A [(a2, .inr (1, [.ref c1, .int 8, .int (-1), .int (-1), .ref c2, .int 0, .int 0, .int 0, .int 0, .int 0, .ref c3, .ref c4])), (c2, .inl (k.1, 900, .inl fb))] sz)) 0 0 (va_A [(a2, .inr (1, [.ref c1, .int 8, .int (-1), .int (-1), .ref c2, .int 0, .int 0, .int 0, .int 0, .int 0, .ref c3, .ref c4])), (c2, .inl (k.1, 900, .inl fb))] sz) := by
  refine jy_met (cc := cX1_append) (maxL := 3) (ret := none) (lv := [(0, .ref a2), (1, .int y)]) (by decide) rfl (Nat.le_of_ble_eq_true rfl) rfl ?_
  intro p e s m below meth c F hr hlk hnm hN hA
  have hiX1 : ∀ w ∈ u_ws RX1 TX1 12, w ∈ ws_c_X1_append_8 := fun w hw => List.mem_cons_of_mem _ (List.mem_append_right _ hw)
  refine jy_bipush (pc' := 2) (v := 24) F dX1_append_0 (by decide) rfl ?_
  refine jy_istore_n (pc' := 3) (lv' := [(2, .int 24), (0, .ref a2), (1, .int y)]) F dX1_append_2 rfl (by decide) rfl rfl ?_
  refine jy_iload_n (pc' := 4) F 0 dX1_append_3 rfl rfl rfl ?_
  refine jy_if_lt (pc' := 7) (tgt := 46) F dX1_append_4 (by decide) rfl (fun h => absurd h (by decide)) (fun _ => ?_)
  refine jy_aload_n (pc' := 8) F 1 dX1_append_7 rfl rfl rfl ?_
  refine jy_get (pc' := 11) (C := RX1) (T := TX1) (N := 12) (ci := 1) (v := .int 8) F hiX1 0 rfl rfl 1 (by decide) dX1_append_8 (List.mem_of_getElem? (i := 1) rfl) rfl rfl ?_
  refine jy_sipush (pc' := 14) (v := 900) F dX1_append_11 (by decide) rfl ?_
  refine jy_icmp_ge (pc' := 17) (tgt := 46) F dX1_append_14 (by decide) rfl (fun h => absurd h (by decide)) (fun _ => ?_)
  refine jy_aload_n (pc' := 18) F 1 dX1_append_17 rfl rfl rfl ?_
  refine jy_get (pc' := 21) (C := RX1) (T := TX1) (N := 12) (ci := 1) (v := .ref c2) F hiX1 0 rfl rfl 4 (by decide) dX1_append_18 (List.mem_of_getElem? (i := 2) rfl) rfl rfl ?_
  refine jy_aload_n (pc' := 22) F 1 dX1_append_21 rfl rfl rfl ?_
  refine jy_get (pc' := 25) (C := RX1) (T := TX1) (N := 12) (ci := 1) (v := .int 8) F hiX1 0 rfl rfl 1 (by decide) dX1_append_22 (List.mem_of_getElem? (i := 1) rfl) rfl rfl ?_
  refine jy_iload_n (pc' := 26) F 2 dX1_append_25 rfl rfl rfl ?_
  refine jy_iload_n (pc' := 27) F 0 dX1_append_26 rfl rfl rfl ?_
  refine jy_ishr (pc' := 28) (v := (y >>> (24 &&& 31))) F dX1_append_27 rfl rfl ?_
  refine jy_i2b (pc' := 29) (v := (((y >>> (24 &&& 31))).toInt8.toInt32)) F dX1_append_28 rfl rfl ?_
  refine jy_bast (pc' := 30) (g := (upd fb 8 (vp_nar .byte (((y >>> (24 &&& 31))).toInt8.toInt32)))) (ws' := [(a2, .inr (1, [.ref c1, .int 8, .int (-1), .int (-1), .ref c2, .int 0, .int 0, .int 0, .int 0, .int 0, .ref c3, .ref c4])), (c2, .inl (k.1, 900, .inl (upd fb 8 (vp_nar .byte (((y >>> (24 &&& 31))).toInt8.toInt32)))))]) F 1 0 rfl rfl dX1_append_29 (vp_in_nI (n := 8) (by omega) (by omega)) rfl rfl rfl ?_
  refine jy_aload_n (pc' := 31) F 1 dX1_append_30 rfl rfl rfl ?_
  refine jy_dup (pc' := 32) F dX1_append_31 rfl rfl ?_
  refine jy_get (pc' := 35) (C := RX1) (T := TX1) (N := 12) (ci := 1) (v := .int 8) F hiX1 0 rfl rfl 1 (by decide) dX1_append_32 (List.mem_of_getElem? (i := 1) rfl) rfl rfl ?_
  refine jy_iconst (pc' := 36) (v := 1) F dX1_append_35 (by decide) rfl ?_
  refine jy_iadd (pc' := 37) (v := 9) F dX1_append_36 (by decide) rfl ?_
  refine jy_put (pc' := 40) (C := RX1) (T := TX1) (N := 12) (ci := 1) (ws' := [(a2, .inr (1, [.ref c1, .int 9, .int (-1), .int (-1), .ref c2, .int 0, .int 0, .int 0, .int 0, .int 0, .ref c3, .ref c4])), (c2, .inl (k.1, 900, .inl (upd fb 8 (vp_nar .byte (((y >>> (24 &&& 31))).toInt8.toInt32)))))]) F hiX1 tyX1 tyX1_ok nmX1 0 rfl rfl 1 (by decide) dX1_append_37 (List.mem_of_getElem? (i := 1) rfl) rfl rfl rfl rfl (Nat.le_of_ble_eq_true rfl) rfl rfl ?_
  refine jy_iinc (pc' := 43) (v := 16) (lv' := [(2, .int 16), (0, .ref a2), (1, .int y)]) F 0 dX1_append_40 rfl (by decide) (by decide) rfl rfl ?_
  refine jy_goto (tgt := 3) F dX1_append_43 (by decide) ?_
  refine jy_iload_n (pc' := 4) F 0 dX1_append_3 rfl rfl rfl ?_
  refine jy_if_lt (pc' := 7) (tgt := 46) F dX1_append_4 (by decide) rfl (fun h => absurd h (by decide)) (fun _ => ?_)
  refine jy_aload_n (pc' := 8) F 1 dX1_append_7 rfl rfl rfl ?_
  refine jy_get (pc' := 11) (C := RX1) (T := TX1) (N := 12) (ci := 1) (v := .int 9) F hiX1 0 rfl rfl 1 (by decide) dX1_append_8 (List.mem_of_getElem? (i := 1) rfl) rfl rfl ?_
  refine jy_sipush (pc' := 14) (v := 900) F dX1_append_11 (by decide) rfl ?_
  refine jy_icmp_ge (pc' := 17) (tgt := 46) F dX1_append_14 (by decide) rfl (fun h => absurd h (by decide)) (fun _ => ?_)
  refine jy_aload_n (pc' := 18) F 1 dX1_append_17 rfl rfl rfl ?_
  refine jy_get (pc' := 21) (C := RX1) (T := TX1) (N := 12) (ci := 1) (v := .ref c2) F hiX1 0 rfl rfl 4 (by decide) dX1_append_18 (List.mem_of_getElem? (i := 2) rfl) rfl rfl ?_
  refine jy_aload_n (pc' := 22) F 1 dX1_append_21 rfl rfl rfl ?_
  refine jy_get (pc' := 25) (C := RX1) (T := TX1) (N := 12) (ci := 1) (v := .int 9) F hiX1 0 rfl rfl 1 (by decide) dX1_append_22 (List.mem_of_getElem? (i := 1) rfl) rfl rfl ?_
  refine jy_iload_n (pc' := 26) F 2 dX1_append_25 rfl rfl rfl ?_
  refine jy_iload_n (pc' := 27) F 0 dX1_append_26 rfl rfl rfl ?_
  refine jy_ishr (pc' := 28) (v := (y >>> (16 &&& 31))) F dX1_append_27 rfl rfl ?_
  refine jy_i2b (pc' := 29) (v := (((y >>> (16 &&& 31))).toInt8.toInt32)) F dX1_append_28 rfl rfl ?_
  refine jy_bast (pc' := 30) (g := (upd (upd fb 8 (vp_nar .byte (((y >>> (24 &&& 31))).toInt8.toInt32))) 9 (vp_nar .byte (((y >>> (16 &&& 31))).toInt8.toInt32)))) (ws' := [(a2, .inr (1, [.ref c1, .int 9, .int (-1), .int (-1), .ref c2, .int 0, .int 0, .int 0, .int 0, .int 0, .ref c3, .ref c4])), (c2, .inl (k.1, 900, .inl (upd (upd fb 8 (vp_nar .byte (((y >>> (24 &&& 31))).toInt8.toInt32))) 9 (vp_nar .byte (((y >>> (16 &&& 31))).toInt8.toInt32)))))]) F 1 0 rfl rfl dX1_append_29 (vp_in_nI (n := 9) (by omega) (by omega)) rfl rfl rfl ?_
  refine jy_aload_n (pc' := 31) F 1 dX1_append_30 rfl rfl rfl ?_
  refine jy_dup (pc' := 32) F dX1_append_31 rfl rfl ?_
  refine jy_get (pc' := 35) (C := RX1) (T := TX1) (N := 12) (ci := 1) (v := .int 9) F hiX1 0 rfl rfl 1 (by decide) dX1_append_32 (List.mem_of_getElem? (i := 1) rfl) rfl rfl ?_
  refine jy_iconst (pc' := 36) (v := 1) F dX1_append_35 (by decide) rfl ?_
  refine jy_iadd (pc' := 37) (v := 10) F dX1_append_36 (by decide) rfl ?_
  refine jy_put (pc' := 40) (C := RX1) (T := TX1) (N := 12) (ci := 1) (ws' := [(a2, .inr (1, [.ref c1, .int 10, .int (-1), .int (-1), .ref c2, .int 0, .int 0, .int 0, .int 0, .int 0, .ref c3, .ref c4])), (c2, .inl (k.1, 900, .inl (upd (upd fb 8 (vp_nar .byte (((y >>> (24 &&& 31))).toInt8.toInt32))) 9 (vp_nar .byte (((y >>> (16 &&& 31))).toInt8.toInt32)))))]) F hiX1 tyX1 tyX1_ok nmX1 0 rfl rfl 1 (by decide) dX1_append_37 (List.mem_of_getElem? (i := 1) rfl) rfl rfl rfl rfl (Nat.le_of_ble_eq_true rfl) rfl rfl ?_
  refine jy_iinc (pc' := 43) (v := 8) (lv' := [(2, .int 8), (0, .ref a2), (1, .int y)]) F 0 dX1_append_40 rfl (by decide) (by decide) rfl rfl ?_
  refine jy_goto (tgt := 3) F dX1_append_43 (by decide) ?_
  refine jy_iload_n (pc' := 4) F 0 dX1_append_3 rfl rfl rfl ?_
  refine jy_if_lt (pc' := 7) (tgt := 46) F dX1_append_4 (by decide) rfl (fun h => absurd h (by decide)) (fun _ => ?_)
  refine jy_aload_n (pc' := 8) F 1 dX1_append_7 rfl rfl rfl ?_
  refine jy_get (pc' := 11) (C := RX1) (T := TX1) (N := 12) (ci := 1) (v := .int 10) F hiX1 0 rfl rfl 1 (by decide) dX1_append_8 (List.mem_of_getElem? (i := 1) rfl) rfl rfl ?_
  refine jy_sipush (pc' := 14) (v := 900) F dX1_append_11 (by decide) rfl ?_
  refine jy_icmp_ge (pc' := 17) (tgt := 46) F dX1_append_14 (by decide) rfl (fun h => absurd h (by decide)) (fun _ => ?_)
  refine jy_aload_n (pc' := 18) F 1 dX1_append_17 rfl rfl rfl ?_
  refine jy_get (pc' := 21) (C := RX1) (T := TX1) (N := 12) (ci := 1) (v := .ref c2) F hiX1 0 rfl rfl 4 (by decide) dX1_append_18 (List.mem_of_getElem? (i := 2) rfl) rfl rfl ?_
  refine jy_aload_n (pc' := 22) F 1 dX1_append_21 rfl rfl rfl ?_
  refine jy_get (pc' := 25) (C := RX1) (T := TX1) (N := 12) (ci := 1) (v := .int 10) F hiX1 0 rfl rfl 1 (by decide) dX1_append_22 (List.mem_of_getElem? (i := 1) rfl) rfl rfl ?_
  refine jy_iload_n (pc' := 26) F 2 dX1_append_25 rfl rfl rfl ?_
  refine jy_iload_n (pc' := 27) F 0 dX1_append_26 rfl rfl rfl ?_
  refine jy_ishr (pc' := 28) (v := (y >>> (8 &&& 31))) F dX1_append_27 rfl rfl ?_
  refine jy_i2b (pc' := 29) (v := (((y >>> (8 &&& 31))).toInt8.toInt32)) F dX1_append_28 rfl rfl ?_
  refine jy_bast (pc' := 30) (g := (upd (upd (upd fb 8 (vp_nar .byte (((y >>> (24 &&& 31))).toInt8.toInt32))) 9 (vp_nar .byte (((y >>> (16 &&& 31))).toInt8.toInt32))) 10 (vp_nar .byte (((y >>> (8 &&& 31))).toInt8.toInt32)))) (ws' := [(a2, .inr (1, [.ref c1, .int 10, .int (-1), .int (-1), .ref c2, .int 0, .int 0, .int 0, .int 0, .int 0, .ref c3, .ref c4])), (c2, .inl (k.1, 900, .inl (upd (upd (upd fb 8 (vp_nar .byte (((y >>> (24 &&& 31))).toInt8.toInt32))) 9 (vp_nar .byte (((y >>> (16 &&& 31))).toInt8.toInt32))) 10 (vp_nar .byte (((y >>> (8 &&& 31))).toInt8.toInt32)))))]) F 1 0 rfl rfl dX1_append_29 (vp_in_nI (n := 10) (by omega) (by omega)) rfl rfl rfl ?_
  refine jy_aload_n (pc' := 31) F 1 dX1_append_30 rfl rfl rfl ?_
  refine jy_dup (pc' := 32) F dX1_append_31 rfl rfl ?_
  refine jy_get (pc' := 35) (C := RX1) (T := TX1) (N := 12) (ci := 1) (v := .int 10) F hiX1 0 rfl rfl 1 (by decide) dX1_append_32 (List.mem_of_getElem? (i := 1) rfl) rfl rfl ?_
  refine jy_iconst (pc' := 36) (v := 1) F dX1_append_35 (by decide) rfl ?_
  refine jy_iadd (pc' := 37) (v := 11) F dX1_append_36 (by decide) rfl ?_
  refine jy_put (pc' := 40) (C := RX1) (T := TX1) (N := 12) (ci := 1) (ws' := [(a2, .inr (1, [.ref c1, .int 11, .int (-1), .int (-1), .ref c2, .int 0, .int 0, .int 0, .int 0, .int 0, .ref c3, .ref c4])), (c2, .inl (k.1, 900, .inl (upd (upd (upd fb 8 (vp_nar .byte (((y >>> (24 &&& 31))).toInt8.toInt32))) 9 (vp_nar .byte (((y >>> (16 &&& 31))).toInt8.toInt32))) 10 (vp_nar .byte (((y >>> (8 &&& 31))).toInt8.toInt32)))))]) F hiX1 tyX1 tyX1_ok nmX1 0 rfl rfl 1 (by decide) dX1_append_37 (List.mem_of_getElem? (i := 1) rfl) rfl rfl rfl rfl (Nat.le_of_ble_eq_true rfl) rfl rfl ?_
  refine jy_iinc (pc' := 43) (v := 0) (lv' := [(2, .int 0), (0, .ref a2), (1, .int y)]) F 0 dX1_append_40 rfl (by decide) (by decide) rfl rfl ?_
  refine jy_goto (tgt := 3) F dX1_append_43 (by decide) ?_
  refine jy_iload_n (pc' := 4) F 0 dX1_append_3 rfl rfl rfl ?_
  refine jy_if_lt (pc' := 7) (tgt := 46) F dX1_append_4 (by decide) rfl (fun h => absurd h (by decide)) (fun _ => ?_)
  refine jy_aload_n (pc' := 8) F 1 dX1_append_7 rfl rfl rfl ?_
  refine jy_get (pc' := 11) (C := RX1) (T := TX1) (N := 12) (ci := 1) (v := .int 11) F hiX1 0 rfl rfl 1 (by decide) dX1_append_8 (List.mem_of_getElem? (i := 1) rfl) rfl rfl ?_
  refine jy_sipush (pc' := 14) (v := 900) F dX1_append_11 (by decide) rfl ?_
  refine jy_icmp_ge (pc' := 17) (tgt := 46) F dX1_append_14 (by decide) rfl (fun h => absurd h (by decide)) (fun _ => ?_)
  refine jy_aload_n (pc' := 18) F 1 dX1_append_17 rfl rfl rfl ?_
  refine jy_get (pc' := 21) (C := RX1) (T := TX1) (N := 12) (ci := 1) (v := .ref c2) F hiX1 0 rfl rfl 4 (by decide) dX1_append_18 (List.mem_of_getElem? (i := 2) rfl) rfl rfl ?_
  refine jy_aload_n (pc' := 22) F 1 dX1_append_21 rfl rfl rfl ?_
  refine jy_get (pc' := 25) (C := RX1) (T := TX1) (N := 12) (ci := 1) (v := .int 11) F hiX1 0 rfl rfl 1 (by decide) dX1_append_22 (List.mem_of_getElem? (i := 1) rfl) rfl rfl ?_
  refine jy_iload_n (pc' := 26) F 2 dX1_append_25 rfl rfl rfl ?_
  refine jy_iload_n (pc' := 27) F 0 dX1_append_26 rfl rfl rfl ?_
  refine jy_ishr (pc' := 28) (v := (y >>> (0 &&& 31))) F dX1_append_27 rfl rfl ?_
  refine jy_i2b (pc' := 29) (v := (((y >>> (0 &&& 31))).toInt8.toInt32)) F dX1_append_28 rfl rfl ?_
  refine jy_bast (pc' := 30) (g := (upd (upd (upd (upd fb 8 (vp_nar .byte (((y >>> (24 &&& 31))).toInt8.toInt32))) 9 (vp_nar .byte (((y >>> (16 &&& 31))).toInt8.toInt32))) 10 (vp_nar .byte (((y >>> (8 &&& 31))).toInt8.toInt32))) 11 (vp_nar .byte (((y >>> (0 &&& 31))).toInt8.toInt32)))) (ws' := [(a2, .inr (1, [.ref c1, .int 11, .int (-1), .int (-1), .ref c2, .int 0, .int 0, .int 0, .int 0, .int 0, .ref c3, .ref c4])), (c2, .inl (k.1, 900, .inl (upd (upd (upd (upd fb 8 (vp_nar .byte (((y >>> (24 &&& 31))).toInt8.toInt32))) 9 (vp_nar .byte (((y >>> (16 &&& 31))).toInt8.toInt32))) 10 (vp_nar .byte (((y >>> (8 &&& 31))).toInt8.toInt32))) 11 (vp_nar .byte (((y >>> (0 &&& 31))).toInt8.toInt32)))))]) F 1 0 rfl rfl dX1_append_29 (vp_in_nI (n := 11) (by omega) (by omega)) rfl rfl rfl ?_
  refine jy_aload_n (pc' := 31) F 1 dX1_append_30 rfl rfl rfl ?_
  refine jy_dup (pc' := 32) F dX1_append_31 rfl rfl ?_
  refine jy_get (pc' := 35) (C := RX1) (T := TX1) (N := 12) (ci := 1) (v := .int 11) F hiX1 0 rfl rfl 1 (by decide) dX1_append_32 (List.mem_of_getElem? (i := 1) rfl) rfl rfl ?_
  refine jy_iconst (pc' := 36) (v := 1) F dX1_append_35 (by decide) rfl ?_
  refine jy_iadd (pc' := 37) (v := 12) F dX1_append_36 (by decide) rfl ?_
  refine jy_put (pc' := 40) (C := RX1) (T := TX1) (N := 12) (ci := 1) (ws' := [(a2, .inr (1, [.ref c1, .int 12, .int (-1), .int (-1), .ref c2, .int 0, .int 0, .int 0, .int 0, .int 0, .ref c3, .ref c4])), (c2, .inl (k.1, 900, .inl (upd (upd (upd (upd fb 8 (vp_nar .byte (((y >>> (24 &&& 31))).toInt8.toInt32))) 9 (vp_nar .byte (((y >>> (16 &&& 31))).toInt8.toInt32))) 10 (vp_nar .byte (((y >>> (8 &&& 31))).toInt8.toInt32))) 11 (vp_nar .byte (((y >>> (0 &&& 31))).toInt8.toInt32)))))]) F hiX1 tyX1 tyX1_ok nmX1 0 rfl rfl 1 (by decide) dX1_append_37 (List.mem_of_getElem? (i := 1) rfl) rfl rfl rfl rfl (Nat.le_of_ble_eq_true rfl) rfl rfl ?_
  refine jy_iinc (pc' := 43) (v := (-8)) (lv' := [(2, .int (-8)), (0, .ref a2), (1, .int y)]) F 0 dX1_append_40 rfl (by decide) (by decide) rfl rfl ?_
  refine jy_goto (tgt := 3) F dX1_append_43 (by decide) ?_
  refine jy_iload_n (pc' := 4) F 0 dX1_append_3 rfl rfl rfl ?_
  refine jy_if_lt (pc' := 7) (tgt := 46) F dX1_append_4 (by decide) rfl (fun _ => ?_) (fun h => absurd h (by decide))
  refine jy_widen (cells' := 0) (slots' := 0) (by decide) (by decide) ?_
  exact jy_vret F hr hlk ((upd (upd (upd (upd fb 8 (vp_nar .byte (((y >>> (24 &&& 31))).toInt8.toInt32))) 9 (vp_nar .byte (((y >>> (16 &&& 31))).toInt8.toInt32))) 10 (vp_nar .byte (((y >>> (8 &&& 31))).toInt8.toInt32))) 11 (vp_nar .byte (((y >>> (0 &&& 31))).toInt8.toInt32)))) (trivial) [0, 1] rfl (by decide) dX1_append_46
def ws_c_X1_append_12 : List Cond := .code yX1_append cX1_append 3 none :: ([.fieldLink "NestedChecker$Reader" 36 "NestedChecker$Reader" "taped" "I", .fieldLink "NestedChecker$Reader" 25 "NestedChecker$Reader" "tape" "[B"] ++ wsX10)
set_option maxHeartbeats 4000000 in
set_option maxRecDepth 100000 in
theorem c_X1_append_12 (l : Launch) (D : va_G) (k : jK) (a2 : Nat) (c1 : Nat) (c2 : Nat) (c3 : Nat) (c4 : Nat) (fb : Nat → Int32) (y : Int32) (sz : Nat)  : Met l yX1_append ws_c_X1_append_12 ({ frames := 0, cells := 0, slots := 0, locals := 0 }) (jy_P [.ref a2, .int y] D vwCl (jT k) jW [(a2, .inr (1, [.ref c1, .int 12, .int (-1), .int (-1), .ref c2, .int 0, .int 0, .int 0, .int 0, .int 0, .ref c3, .ref c4])), (c2, .inl (k.1, 900, .inl fb))] sz) (va_Qv (fun (u : (Nat → Int32)) => True) (jy_B D vwCl (va_A [(a2, .inr (1, [.ref c1, .int 12, .int (-1), .int (-1), .ref c2, .int 0, .int 0, .int 0, .int 0, .int 0, .ref c3, .ref c4])), (c2, .inl (k.1, 900, .inl fb))] sz) (fun (u : (Nat → Int32)) => [(a2, .inr (1, [.ref c1, .int 16, .int (-1), .int (-1), .ref c2, .int 0, .int 0, .int 0, .int 0, .int 0, .ref c3, .ref c4])), (c2, .inl (k.1, 900, .inl u))])) (va_A [(a2, .inr (1, [.ref c1, .int 12, .int (-1), .int (-1), .ref c2, .int 0, .int 0, .int 0, .int 0, .int 0, .ref c3, .ref c4])), (c2, .inl (k.1, 900, .inl fb))] sz)) 0 0 (va_A [(a2, .inr (1, [.ref c1, .int 12, .int (-1), .int (-1), .ref c2, .int 0, .int 0, .int 0, .int 0, .int 0, .ref c3, .ref c4])), (c2, .inl (k.1, 900, .inl fb))] sz) := by
  refine jy_met (cc := cX1_append) (maxL := 3) (ret := none) (lv := [(0, .ref a2), (1, .int y)]) (by decide) rfl (Nat.le_of_ble_eq_true rfl) rfl ?_
  intro p e s m below meth c F hr hlk hnm hN hA
  have hiX1 : ∀ w ∈ u_ws RX1 TX1 12, w ∈ ws_c_X1_append_12 := fun w hw => List.mem_cons_of_mem _ (List.mem_append_right _ hw)
  refine jy_bipush (pc' := 2) (v := 24) F dX1_append_0 (by decide) rfl ?_
  refine jy_istore_n (pc' := 3) (lv' := [(2, .int 24), (0, .ref a2), (1, .int y)]) F dX1_append_2 rfl (by decide) rfl rfl ?_
  refine jy_iload_n (pc' := 4) F 0 dX1_append_3 rfl rfl rfl ?_
  refine jy_if_lt (pc' := 7) (tgt := 46) F dX1_append_4 (by decide) rfl (fun h => absurd h (by decide)) (fun _ => ?_)
  refine jy_aload_n (pc' := 8) F 1 dX1_append_7 rfl rfl rfl ?_
  refine jy_get (pc' := 11) (C := RX1) (T := TX1) (N := 12) (ci := 1) (v := .int 12) F hiX1 0 rfl rfl 1 (by decide) dX1_append_8 (List.mem_of_getElem? (i := 1) rfl) rfl rfl ?_
  refine jy_sipush (pc' := 14) (v := 900) F dX1_append_11 (by decide) rfl ?_
  refine jy_icmp_ge (pc' := 17) (tgt := 46) F dX1_append_14 (by decide) rfl (fun h => absurd h (by decide)) (fun _ => ?_)
  refine jy_aload_n (pc' := 18) F 1 dX1_append_17 rfl rfl rfl ?_
  refine jy_get (pc' := 21) (C := RX1) (T := TX1) (N := 12) (ci := 1) (v := .ref c2) F hiX1 0 rfl rfl 4 (by decide) dX1_append_18 (List.mem_of_getElem? (i := 2) rfl) rfl rfl ?_
  refine jy_aload_n (pc' := 22) F 1 dX1_append_21 rfl rfl rfl ?_
  refine jy_get (pc' := 25) (C := RX1) (T := TX1) (N := 12) (ci := 1) (v := .int 12) F hiX1 0 rfl rfl 1 (by decide) dX1_append_22 (List.mem_of_getElem? (i := 1) rfl) rfl rfl ?_
  refine jy_iload_n (pc' := 26) F 2 dX1_append_25 rfl rfl rfl ?_
  refine jy_iload_n (pc' := 27) F 0 dX1_append_26 rfl rfl rfl ?_
  refine jy_ishr (pc' := 28) (v := (y >>> (24 &&& 31))) F dX1_append_27 rfl rfl ?_
  refine jy_i2b (pc' := 29) (v := (((y >>> (24 &&& 31))).toInt8.toInt32)) F dX1_append_28 rfl rfl ?_
  refine jy_bast (pc' := 30) (g := (upd fb 12 (vp_nar .byte (((y >>> (24 &&& 31))).toInt8.toInt32)))) (ws' := [(a2, .inr (1, [.ref c1, .int 12, .int (-1), .int (-1), .ref c2, .int 0, .int 0, .int 0, .int 0, .int 0, .ref c3, .ref c4])), (c2, .inl (k.1, 900, .inl (upd fb 12 (vp_nar .byte (((y >>> (24 &&& 31))).toInt8.toInt32)))))]) F 1 0 rfl rfl dX1_append_29 (vp_in_nI (n := 12) (by omega) (by omega)) rfl rfl rfl ?_
  refine jy_aload_n (pc' := 31) F 1 dX1_append_30 rfl rfl rfl ?_
  refine jy_dup (pc' := 32) F dX1_append_31 rfl rfl ?_
  refine jy_get (pc' := 35) (C := RX1) (T := TX1) (N := 12) (ci := 1) (v := .int 12) F hiX1 0 rfl rfl 1 (by decide) dX1_append_32 (List.mem_of_getElem? (i := 1) rfl) rfl rfl ?_
  refine jy_iconst (pc' := 36) (v := 1) F dX1_append_35 (by decide) rfl ?_
  refine jy_iadd (pc' := 37) (v := 13) F dX1_append_36 (by decide) rfl ?_
  refine jy_put (pc' := 40) (C := RX1) (T := TX1) (N := 12) (ci := 1) (ws' := [(a2, .inr (1, [.ref c1, .int 13, .int (-1), .int (-1), .ref c2, .int 0, .int 0, .int 0, .int 0, .int 0, .ref c3, .ref c4])), (c2, .inl (k.1, 900, .inl (upd fb 12 (vp_nar .byte (((y >>> (24 &&& 31))).toInt8.toInt32)))))]) F hiX1 tyX1 tyX1_ok nmX1 0 rfl rfl 1 (by decide) dX1_append_37 (List.mem_of_getElem? (i := 1) rfl) rfl rfl rfl rfl (Nat.le_of_ble_eq_true rfl) rfl rfl ?_
  refine jy_iinc (pc' := 43) (v := 16) (lv' := [(2, .int 16), (0, .ref a2), (1, .int y)]) F 0 dX1_append_40 rfl (by decide) (by decide) rfl rfl ?_
  refine jy_goto (tgt := 3) F dX1_append_43 (by decide) ?_
  refine jy_iload_n (pc' := 4) F 0 dX1_append_3 rfl rfl rfl ?_
  refine jy_if_lt (pc' := 7) (tgt := 46) F dX1_append_4 (by decide) rfl (fun h => absurd h (by decide)) (fun _ => ?_)
  refine jy_aload_n (pc' := 8) F 1 dX1_append_7 rfl rfl rfl ?_
  refine jy_get (pc' := 11) (C := RX1) (T := TX1) (N := 12) (ci := 1) (v := .int 13) F hiX1 0 rfl rfl 1 (by decide) dX1_append_8 (List.mem_of_getElem? (i := 1) rfl) rfl rfl ?_
  refine jy_sipush (pc' := 14) (v := 900) F dX1_append_11 (by decide) rfl ?_
  refine jy_icmp_ge (pc' := 17) (tgt := 46) F dX1_append_14 (by decide) rfl (fun h => absurd h (by decide)) (fun _ => ?_)
  refine jy_aload_n (pc' := 18) F 1 dX1_append_17 rfl rfl rfl ?_
  refine jy_get (pc' := 21) (C := RX1) (T := TX1) (N := 12) (ci := 1) (v := .ref c2) F hiX1 0 rfl rfl 4 (by decide) dX1_append_18 (List.mem_of_getElem? (i := 2) rfl) rfl rfl ?_
  refine jy_aload_n (pc' := 22) F 1 dX1_append_21 rfl rfl rfl ?_
  refine jy_get (pc' := 25) (C := RX1) (T := TX1) (N := 12) (ci := 1) (v := .int 13) F hiX1 0 rfl rfl 1 (by decide) dX1_append_22 (List.mem_of_getElem? (i := 1) rfl) rfl rfl ?_
  refine jy_iload_n (pc' := 26) F 2 dX1_append_25 rfl rfl rfl ?_
  refine jy_iload_n (pc' := 27) F 0 dX1_append_26 rfl rfl rfl ?_
  refine jy_ishr (pc' := 28) (v := (y >>> (16 &&& 31))) F dX1_append_27 rfl rfl ?_
  refine jy_i2b (pc' := 29) (v := (((y >>> (16 &&& 31))).toInt8.toInt32)) F dX1_append_28 rfl rfl ?_
  refine jy_bast (pc' := 30) (g := (upd (upd fb 12 (vp_nar .byte (((y >>> (24 &&& 31))).toInt8.toInt32))) 13 (vp_nar .byte (((y >>> (16 &&& 31))).toInt8.toInt32)))) (ws' := [(a2, .inr (1, [.ref c1, .int 13, .int (-1), .int (-1), .ref c2, .int 0, .int 0, .int 0, .int 0, .int 0, .ref c3, .ref c4])), (c2, .inl (k.1, 900, .inl (upd (upd fb 12 (vp_nar .byte (((y >>> (24 &&& 31))).toInt8.toInt32))) 13 (vp_nar .byte (((y >>> (16 &&& 31))).toInt8.toInt32)))))]) F 1 0 rfl rfl dX1_append_29 (vp_in_nI (n := 13) (by omega) (by omega)) rfl rfl rfl ?_
  refine jy_aload_n (pc' := 31) F 1 dX1_append_30 rfl rfl rfl ?_
  refine jy_dup (pc' := 32) F dX1_append_31 rfl rfl ?_
  refine jy_get (pc' := 35) (C := RX1) (T := TX1) (N := 12) (ci := 1) (v := .int 13) F hiX1 0 rfl rfl 1 (by decide) dX1_append_32 (List.mem_of_getElem? (i := 1) rfl) rfl rfl ?_
  refine jy_iconst (pc' := 36) (v := 1) F dX1_append_35 (by decide) rfl ?_
  refine jy_iadd (pc' := 37) (v := 14) F dX1_append_36 (by decide) rfl ?_
  refine jy_put (pc' := 40) (C := RX1) (T := TX1) (N := 12) (ci := 1) (ws' := [(a2, .inr (1, [.ref c1, .int 14, .int (-1), .int (-1), .ref c2, .int 0, .int 0, .int 0, .int 0, .int 0, .ref c3, .ref c4])), (c2, .inl (k.1, 900, .inl (upd (upd fb 12 (vp_nar .byte (((y >>> (24 &&& 31))).toInt8.toInt32))) 13 (vp_nar .byte (((y >>> (16 &&& 31))).toInt8.toInt32)))))]) F hiX1 tyX1 tyX1_ok nmX1 0 rfl rfl 1 (by decide) dX1_append_37 (List.mem_of_getElem? (i := 1) rfl) rfl rfl rfl rfl (Nat.le_of_ble_eq_true rfl) rfl rfl ?_
  refine jy_iinc (pc' := 43) (v := 8) (lv' := [(2, .int 8), (0, .ref a2), (1, .int y)]) F 0 dX1_append_40 rfl (by decide) (by decide) rfl rfl ?_
  refine jy_goto (tgt := 3) F dX1_append_43 (by decide) ?_
  refine jy_iload_n (pc' := 4) F 0 dX1_append_3 rfl rfl rfl ?_
  refine jy_if_lt (pc' := 7) (tgt := 46) F dX1_append_4 (by decide) rfl (fun h => absurd h (by decide)) (fun _ => ?_)
  refine jy_aload_n (pc' := 8) F 1 dX1_append_7 rfl rfl rfl ?_
  refine jy_get (pc' := 11) (C := RX1) (T := TX1) (N := 12) (ci := 1) (v := .int 14) F hiX1 0 rfl rfl 1 (by decide) dX1_append_8 (List.mem_of_getElem? (i := 1) rfl) rfl rfl ?_
  refine jy_sipush (pc' := 14) (v := 900) F dX1_append_11 (by decide) rfl ?_
  refine jy_icmp_ge (pc' := 17) (tgt := 46) F dX1_append_14 (by decide) rfl (fun h => absurd h (by decide)) (fun _ => ?_)
  refine jy_aload_n (pc' := 18) F 1 dX1_append_17 rfl rfl rfl ?_
  refine jy_get (pc' := 21) (C := RX1) (T := TX1) (N := 12) (ci := 1) (v := .ref c2) F hiX1 0 rfl rfl 4 (by decide) dX1_append_18 (List.mem_of_getElem? (i := 2) rfl) rfl rfl ?_
  refine jy_aload_n (pc' := 22) F 1 dX1_append_21 rfl rfl rfl ?_
  refine jy_get (pc' := 25) (C := RX1) (T := TX1) (N := 12) (ci := 1) (v := .int 14) F hiX1 0 rfl rfl 1 (by decide) dX1_append_22 (List.mem_of_getElem? (i := 1) rfl) rfl rfl ?_
  refine jy_iload_n (pc' := 26) F 2 dX1_append_25 rfl rfl rfl ?_
  refine jy_iload_n (pc' := 27) F 0 dX1_append_26 rfl rfl rfl ?_
  refine jy_ishr (pc' := 28) (v := (y >>> (8 &&& 31))) F dX1_append_27 rfl rfl ?_
  refine jy_i2b (pc' := 29) (v := (((y >>> (8 &&& 31))).toInt8.toInt32)) F dX1_append_28 rfl rfl ?_
  refine jy_bast (pc' := 30) (g := (upd (upd (upd fb 12 (vp_nar .byte (((y >>> (24 &&& 31))).toInt8.toInt32))) 13 (vp_nar .byte (((y >>> (16 &&& 31))).toInt8.toInt32))) 14 (vp_nar .byte (((y >>> (8 &&& 31))).toInt8.toInt32)))) (ws' := [(a2, .inr (1, [.ref c1, .int 14, .int (-1), .int (-1), .ref c2, .int 0, .int 0, .int 0, .int 0, .int 0, .ref c3, .ref c4])), (c2, .inl (k.1, 900, .inl (upd (upd (upd fb 12 (vp_nar .byte (((y >>> (24 &&& 31))).toInt8.toInt32))) 13 (vp_nar .byte (((y >>> (16 &&& 31))).toInt8.toInt32))) 14 (vp_nar .byte (((y >>> (8 &&& 31))).toInt8.toInt32)))))]) F 1 0 rfl rfl dX1_append_29 (vp_in_nI (n := 14) (by omega) (by omega)) rfl rfl rfl ?_
  refine jy_aload_n (pc' := 31) F 1 dX1_append_30 rfl rfl rfl ?_
  refine jy_dup (pc' := 32) F dX1_append_31 rfl rfl ?_
  refine jy_get (pc' := 35) (C := RX1) (T := TX1) (N := 12) (ci := 1) (v := .int 14) F hiX1 0 rfl rfl 1 (by decide) dX1_append_32 (List.mem_of_getElem? (i := 1) rfl) rfl rfl ?_
  refine jy_iconst (pc' := 36) (v := 1) F dX1_append_35 (by decide) rfl ?_
  refine jy_iadd (pc' := 37) (v := 15) F dX1_append_36 (by decide) rfl ?_
  refine jy_put (pc' := 40) (C := RX1) (T := TX1) (N := 12) (ci := 1) (ws' := [(a2, .inr (1, [.ref c1, .int 15, .int (-1), .int (-1), .ref c2, .int 0, .int 0, .int 0, .int 0, .int 0, .ref c3, .ref c4])), (c2, .inl (k.1, 900, .inl (upd (upd (upd fb 12 (vp_nar .byte (((y >>> (24 &&& 31))).toInt8.toInt32))) 13 (vp_nar .byte (((y >>> (16 &&& 31))).toInt8.toInt32))) 14 (vp_nar .byte (((y >>> (8 &&& 31))).toInt8.toInt32)))))]) F hiX1 tyX1 tyX1_ok nmX1 0 rfl rfl 1 (by decide) dX1_append_37 (List.mem_of_getElem? (i := 1) rfl) rfl rfl rfl rfl (Nat.le_of_ble_eq_true rfl) rfl rfl ?_
  refine jy_iinc (pc' := 43) (v := 0) (lv' := [(2, .int 0), (0, .ref a2), (1, .int y)]) F 0 dX1_append_40 rfl (by decide) (by decide) rfl rfl ?_
  refine jy_goto (tgt := 3) F dX1_append_43 (by decide) ?_
  refine jy_iload_n (pc' := 4) F 0 dX1_append_3 rfl rfl rfl ?_
  refine jy_if_lt (pc' := 7) (tgt := 46) F dX1_append_4 (by decide) rfl (fun h => absurd h (by decide)) (fun _ => ?_)
  refine jy_aload_n (pc' := 8) F 1 dX1_append_7 rfl rfl rfl ?_
  refine jy_get (pc' := 11) (C := RX1) (T := TX1) (N := 12) (ci := 1) (v := .int 15) F hiX1 0 rfl rfl 1 (by decide) dX1_append_8 (List.mem_of_getElem? (i := 1) rfl) rfl rfl ?_
  refine jy_sipush (pc' := 14) (v := 900) F dX1_append_11 (by decide) rfl ?_
  refine jy_icmp_ge (pc' := 17) (tgt := 46) F dX1_append_14 (by decide) rfl (fun h => absurd h (by decide)) (fun _ => ?_)
  refine jy_aload_n (pc' := 18) F 1 dX1_append_17 rfl rfl rfl ?_
  refine jy_get (pc' := 21) (C := RX1) (T := TX1) (N := 12) (ci := 1) (v := .ref c2) F hiX1 0 rfl rfl 4 (by decide) dX1_append_18 (List.mem_of_getElem? (i := 2) rfl) rfl rfl ?_
  refine jy_aload_n (pc' := 22) F 1 dX1_append_21 rfl rfl rfl ?_
  refine jy_get (pc' := 25) (C := RX1) (T := TX1) (N := 12) (ci := 1) (v := .int 15) F hiX1 0 rfl rfl 1 (by decide) dX1_append_22 (List.mem_of_getElem? (i := 1) rfl) rfl rfl ?_
  refine jy_iload_n (pc' := 26) F 2 dX1_append_25 rfl rfl rfl ?_
  refine jy_iload_n (pc' := 27) F 0 dX1_append_26 rfl rfl rfl ?_
  refine jy_ishr (pc' := 28) (v := (y >>> (0 &&& 31))) F dX1_append_27 rfl rfl ?_
  refine jy_i2b (pc' := 29) (v := (((y >>> (0 &&& 31))).toInt8.toInt32)) F dX1_append_28 rfl rfl ?_
  refine jy_bast (pc' := 30) (g := (upd (upd (upd (upd fb 12 (vp_nar .byte (((y >>> (24 &&& 31))).toInt8.toInt32))) 13 (vp_nar .byte (((y >>> (16 &&& 31))).toInt8.toInt32))) 14 (vp_nar .byte (((y >>> (8 &&& 31))).toInt8.toInt32))) 15 (vp_nar .byte (((y >>> (0 &&& 31))).toInt8.toInt32)))) (ws' := [(a2, .inr (1, [.ref c1, .int 15, .int (-1), .int (-1), .ref c2, .int 0, .int 0, .int 0, .int 0, .int 0, .ref c3, .ref c4])), (c2, .inl (k.1, 900, .inl (upd (upd (upd (upd fb 12 (vp_nar .byte (((y >>> (24 &&& 31))).toInt8.toInt32))) 13 (vp_nar .byte (((y >>> (16 &&& 31))).toInt8.toInt32))) 14 (vp_nar .byte (((y >>> (8 &&& 31))).toInt8.toInt32))) 15 (vp_nar .byte (((y >>> (0 &&& 31))).toInt8.toInt32)))))]) F 1 0 rfl rfl dX1_append_29 (vp_in_nI (n := 15) (by omega) (by omega)) rfl rfl rfl ?_
  refine jy_aload_n (pc' := 31) F 1 dX1_append_30 rfl rfl rfl ?_
  refine jy_dup (pc' := 32) F dX1_append_31 rfl rfl ?_
  refine jy_get (pc' := 35) (C := RX1) (T := TX1) (N := 12) (ci := 1) (v := .int 15) F hiX1 0 rfl rfl 1 (by decide) dX1_append_32 (List.mem_of_getElem? (i := 1) rfl) rfl rfl ?_
  refine jy_iconst (pc' := 36) (v := 1) F dX1_append_35 (by decide) rfl ?_
  refine jy_iadd (pc' := 37) (v := 16) F dX1_append_36 (by decide) rfl ?_
  refine jy_put (pc' := 40) (C := RX1) (T := TX1) (N := 12) (ci := 1) (ws' := [(a2, .inr (1, [.ref c1, .int 16, .int (-1), .int (-1), .ref c2, .int 0, .int 0, .int 0, .int 0, .int 0, .ref c3, .ref c4])), (c2, .inl (k.1, 900, .inl (upd (upd (upd (upd fb 12 (vp_nar .byte (((y >>> (24 &&& 31))).toInt8.toInt32))) 13 (vp_nar .byte (((y >>> (16 &&& 31))).toInt8.toInt32))) 14 (vp_nar .byte (((y >>> (8 &&& 31))).toInt8.toInt32))) 15 (vp_nar .byte (((y >>> (0 &&& 31))).toInt8.toInt32)))))]) F hiX1 tyX1 tyX1_ok nmX1 0 rfl rfl 1 (by decide) dX1_append_37 (List.mem_of_getElem? (i := 1) rfl) rfl rfl rfl rfl (Nat.le_of_ble_eq_true rfl) rfl rfl ?_
  refine jy_iinc (pc' := 43) (v := (-8)) (lv' := [(2, .int (-8)), (0, .ref a2), (1, .int y)]) F 0 dX1_append_40 rfl (by decide) (by decide) rfl rfl ?_
  refine jy_goto (tgt := 3) F dX1_append_43 (by decide) ?_
  refine jy_iload_n (pc' := 4) F 0 dX1_append_3 rfl rfl rfl ?_
  refine jy_if_lt (pc' := 7) (tgt := 46) F dX1_append_4 (by decide) rfl (fun _ => ?_) (fun h => absurd h (by decide))
  refine jy_widen (cells' := 0) (slots' := 0) (by decide) (by decide) ?_
  exact jy_vret F hr hlk ((upd (upd (upd (upd fb 12 (vp_nar .byte (((y >>> (24 &&& 31))).toInt8.toInt32))) 13 (vp_nar .byte (((y >>> (16 &&& 31))).toInt8.toInt32))) 14 (vp_nar .byte (((y >>> (8 &&& 31))).toInt8.toInt32))) 15 (vp_nar .byte (((y >>> (0 &&& 31))).toInt8.toInt32)))) (trivial) [0, 1] rfl (by decide) dX1_append_46
def ws_c_X1_append_16 : List Cond := .code yX1_append cX1_append 3 none :: ([.fieldLink "NestedChecker$Reader" 36 "NestedChecker$Reader" "taped" "I", .fieldLink "NestedChecker$Reader" 25 "NestedChecker$Reader" "tape" "[B"] ++ wsX10)
set_option maxHeartbeats 4000000 in
set_option maxRecDepth 100000 in
theorem c_X1_append_16 (l : Launch) (D : va_G) (k : jK) (a2 : Nat) (c1 : Nat) (c2 : Nat) (c3 : Nat) (c4 : Nat) (fb : Nat → Int32) (y : Int32) (sz : Nat)  : Met l yX1_append ws_c_X1_append_16 ({ frames := 0, cells := 0, slots := 0, locals := 0 }) (jy_P [.ref a2, .int y] D vwCl (jT k) jW [(a2, .inr (1, [.ref c1, .int 16, .int (-1), .int (-1), .ref c2, .int 0, .int 0, .int 0, .int 0, .int 0, .ref c3, .ref c4])), (c2, .inl (k.1, 900, .inl fb))] sz) (va_Qv (fun (u : (Nat → Int32)) => True) (jy_B D vwCl (va_A [(a2, .inr (1, [.ref c1, .int 16, .int (-1), .int (-1), .ref c2, .int 0, .int 0, .int 0, .int 0, .int 0, .ref c3, .ref c4])), (c2, .inl (k.1, 900, .inl fb))] sz) (fun (u : (Nat → Int32)) => [(a2, .inr (1, [.ref c1, .int 20, .int (-1), .int (-1), .ref c2, .int 0, .int 0, .int 0, .int 0, .int 0, .ref c3, .ref c4])), (c2, .inl (k.1, 900, .inl u))])) (va_A [(a2, .inr (1, [.ref c1, .int 16, .int (-1), .int (-1), .ref c2, .int 0, .int 0, .int 0, .int 0, .int 0, .ref c3, .ref c4])), (c2, .inl (k.1, 900, .inl fb))] sz)) 0 0 (va_A [(a2, .inr (1, [.ref c1, .int 16, .int (-1), .int (-1), .ref c2, .int 0, .int 0, .int 0, .int 0, .int 0, .ref c3, .ref c4])), (c2, .inl (k.1, 900, .inl fb))] sz) := by
  refine jy_met (cc := cX1_append) (maxL := 3) (ret := none) (lv := [(0, .ref a2), (1, .int y)]) (by decide) rfl (Nat.le_of_ble_eq_true rfl) rfl ?_
  intro p e s m below meth c F hr hlk hnm hN hA
  have hiX1 : ∀ w ∈ u_ws RX1 TX1 12, w ∈ ws_c_X1_append_16 := fun w hw => List.mem_cons_of_mem _ (List.mem_append_right _ hw)
  refine jy_bipush (pc' := 2) (v := 24) F dX1_append_0 (by decide) rfl ?_
  refine jy_istore_n (pc' := 3) (lv' := [(2, .int 24), (0, .ref a2), (1, .int y)]) F dX1_append_2 rfl (by decide) rfl rfl ?_
  refine jy_iload_n (pc' := 4) F 0 dX1_append_3 rfl rfl rfl ?_
  refine jy_if_lt (pc' := 7) (tgt := 46) F dX1_append_4 (by decide) rfl (fun h => absurd h (by decide)) (fun _ => ?_)
  refine jy_aload_n (pc' := 8) F 1 dX1_append_7 rfl rfl rfl ?_
  refine jy_get (pc' := 11) (C := RX1) (T := TX1) (N := 12) (ci := 1) (v := .int 16) F hiX1 0 rfl rfl 1 (by decide) dX1_append_8 (List.mem_of_getElem? (i := 1) rfl) rfl rfl ?_
  refine jy_sipush (pc' := 14) (v := 900) F dX1_append_11 (by decide) rfl ?_
  refine jy_icmp_ge (pc' := 17) (tgt := 46) F dX1_append_14 (by decide) rfl (fun h => absurd h (by decide)) (fun _ => ?_)
  refine jy_aload_n (pc' := 18) F 1 dX1_append_17 rfl rfl rfl ?_
  refine jy_get (pc' := 21) (C := RX1) (T := TX1) (N := 12) (ci := 1) (v := .ref c2) F hiX1 0 rfl rfl 4 (by decide) dX1_append_18 (List.mem_of_getElem? (i := 2) rfl) rfl rfl ?_
  refine jy_aload_n (pc' := 22) F 1 dX1_append_21 rfl rfl rfl ?_
  refine jy_get (pc' := 25) (C := RX1) (T := TX1) (N := 12) (ci := 1) (v := .int 16) F hiX1 0 rfl rfl 1 (by decide) dX1_append_22 (List.mem_of_getElem? (i := 1) rfl) rfl rfl ?_
  refine jy_iload_n (pc' := 26) F 2 dX1_append_25 rfl rfl rfl ?_
  refine jy_iload_n (pc' := 27) F 0 dX1_append_26 rfl rfl rfl ?_
  refine jy_ishr (pc' := 28) (v := (y >>> (24 &&& 31))) F dX1_append_27 rfl rfl ?_
  refine jy_i2b (pc' := 29) (v := (((y >>> (24 &&& 31))).toInt8.toInt32)) F dX1_append_28 rfl rfl ?_
  refine jy_bast (pc' := 30) (g := (upd fb 16 (vp_nar .byte (((y >>> (24 &&& 31))).toInt8.toInt32)))) (ws' := [(a2, .inr (1, [.ref c1, .int 16, .int (-1), .int (-1), .ref c2, .int 0, .int 0, .int 0, .int 0, .int 0, .ref c3, .ref c4])), (c2, .inl (k.1, 900, .inl (upd fb 16 (vp_nar .byte (((y >>> (24 &&& 31))).toInt8.toInt32)))))]) F 1 0 rfl rfl dX1_append_29 (vp_in_nI (n := 16) (by omega) (by omega)) rfl rfl rfl ?_
  refine jy_aload_n (pc' := 31) F 1 dX1_append_30 rfl rfl rfl ?_
  refine jy_dup (pc' := 32) F dX1_append_31 rfl rfl ?_
  refine jy_get (pc' := 35) (C := RX1) (T := TX1) (N := 12) (ci := 1) (v := .int 16) F hiX1 0 rfl rfl 1 (by decide) dX1_append_32 (List.mem_of_getElem? (i := 1) rfl) rfl rfl ?_
  refine jy_iconst (pc' := 36) (v := 1) F dX1_append_35 (by decide) rfl ?_
  refine jy_iadd (pc' := 37) (v := 17) F dX1_append_36 (by decide) rfl ?_
  refine jy_put (pc' := 40) (C := RX1) (T := TX1) (N := 12) (ci := 1) (ws' := [(a2, .inr (1, [.ref c1, .int 17, .int (-1), .int (-1), .ref c2, .int 0, .int 0, .int 0, .int 0, .int 0, .ref c3, .ref c4])), (c2, .inl (k.1, 900, .inl (upd fb 16 (vp_nar .byte (((y >>> (24 &&& 31))).toInt8.toInt32)))))]) F hiX1 tyX1 tyX1_ok nmX1 0 rfl rfl 1 (by decide) dX1_append_37 (List.mem_of_getElem? (i := 1) rfl) rfl rfl rfl rfl (Nat.le_of_ble_eq_true rfl) rfl rfl ?_
  refine jy_iinc (pc' := 43) (v := 16) (lv' := [(2, .int 16), (0, .ref a2), (1, .int y)]) F 0 dX1_append_40 rfl (by decide) (by decide) rfl rfl ?_
  refine jy_goto (tgt := 3) F dX1_append_43 (by decide) ?_
  refine jy_iload_n (pc' := 4) F 0 dX1_append_3 rfl rfl rfl ?_
  refine jy_if_lt (pc' := 7) (tgt := 46) F dX1_append_4 (by decide) rfl (fun h => absurd h (by decide)) (fun _ => ?_)
  refine jy_aload_n (pc' := 8) F 1 dX1_append_7 rfl rfl rfl ?_
  refine jy_get (pc' := 11) (C := RX1) (T := TX1) (N := 12) (ci := 1) (v := .int 17) F hiX1 0 rfl rfl 1 (by decide) dX1_append_8 (List.mem_of_getElem? (i := 1) rfl) rfl rfl ?_
  refine jy_sipush (pc' := 14) (v := 900) F dX1_append_11 (by decide) rfl ?_
  refine jy_icmp_ge (pc' := 17) (tgt := 46) F dX1_append_14 (by decide) rfl (fun h => absurd h (by decide)) (fun _ => ?_)
  refine jy_aload_n (pc' := 18) F 1 dX1_append_17 rfl rfl rfl ?_
  refine jy_get (pc' := 21) (C := RX1) (T := TX1) (N := 12) (ci := 1) (v := .ref c2) F hiX1 0 rfl rfl 4 (by decide) dX1_append_18 (List.mem_of_getElem? (i := 2) rfl) rfl rfl ?_
  refine jy_aload_n (pc' := 22) F 1 dX1_append_21 rfl rfl rfl ?_
  refine jy_get (pc' := 25) (C := RX1) (T := TX1) (N := 12) (ci := 1) (v := .int 17) F hiX1 0 rfl rfl 1 (by decide) dX1_append_22 (List.mem_of_getElem? (i := 1) rfl) rfl rfl ?_
  refine jy_iload_n (pc' := 26) F 2 dX1_append_25 rfl rfl rfl ?_
  refine jy_iload_n (pc' := 27) F 0 dX1_append_26 rfl rfl rfl ?_
  refine jy_ishr (pc' := 28) (v := (y >>> (16 &&& 31))) F dX1_append_27 rfl rfl ?_
  refine jy_i2b (pc' := 29) (v := (((y >>> (16 &&& 31))).toInt8.toInt32)) F dX1_append_28 rfl rfl ?_
  refine jy_bast (pc' := 30) (g := (upd (upd fb 16 (vp_nar .byte (((y >>> (24 &&& 31))).toInt8.toInt32))) 17 (vp_nar .byte (((y >>> (16 &&& 31))).toInt8.toInt32)))) (ws' := [(a2, .inr (1, [.ref c1, .int 17, .int (-1), .int (-1), .ref c2, .int 0, .int 0, .int 0, .int 0, .int 0, .ref c3, .ref c4])), (c2, .inl (k.1, 900, .inl (upd (upd fb 16 (vp_nar .byte (((y >>> (24 &&& 31))).toInt8.toInt32))) 17 (vp_nar .byte (((y >>> (16 &&& 31))).toInt8.toInt32)))))]) F 1 0 rfl rfl dX1_append_29 (vp_in_nI (n := 17) (by omega) (by omega)) rfl rfl rfl ?_
  refine jy_aload_n (pc' := 31) F 1 dX1_append_30 rfl rfl rfl ?_
  refine jy_dup (pc' := 32) F dX1_append_31 rfl rfl ?_
  refine jy_get (pc' := 35) (C := RX1) (T := TX1) (N := 12) (ci := 1) (v := .int 17) F hiX1 0 rfl rfl 1 (by decide) dX1_append_32 (List.mem_of_getElem? (i := 1) rfl) rfl rfl ?_
  refine jy_iconst (pc' := 36) (v := 1) F dX1_append_35 (by decide) rfl ?_
  refine jy_iadd (pc' := 37) (v := 18) F dX1_append_36 (by decide) rfl ?_
  refine jy_put (pc' := 40) (C := RX1) (T := TX1) (N := 12) (ci := 1) (ws' := [(a2, .inr (1, [.ref c1, .int 18, .int (-1), .int (-1), .ref c2, .int 0, .int 0, .int 0, .int 0, .int 0, .ref c3, .ref c4])), (c2, .inl (k.1, 900, .inl (upd (upd fb 16 (vp_nar .byte (((y >>> (24 &&& 31))).toInt8.toInt32))) 17 (vp_nar .byte (((y >>> (16 &&& 31))).toInt8.toInt32)))))]) F hiX1 tyX1 tyX1_ok nmX1 0 rfl rfl 1 (by decide) dX1_append_37 (List.mem_of_getElem? (i := 1) rfl) rfl rfl rfl rfl (Nat.le_of_ble_eq_true rfl) rfl rfl ?_
  refine jy_iinc (pc' := 43) (v := 8) (lv' := [(2, .int 8), (0, .ref a2), (1, .int y)]) F 0 dX1_append_40 rfl (by decide) (by decide) rfl rfl ?_
  refine jy_goto (tgt := 3) F dX1_append_43 (by decide) ?_
  refine jy_iload_n (pc' := 4) F 0 dX1_append_3 rfl rfl rfl ?_
  refine jy_if_lt (pc' := 7) (tgt := 46) F dX1_append_4 (by decide) rfl (fun h => absurd h (by decide)) (fun _ => ?_)
  refine jy_aload_n (pc' := 8) F 1 dX1_append_7 rfl rfl rfl ?_
  refine jy_get (pc' := 11) (C := RX1) (T := TX1) (N := 12) (ci := 1) (v := .int 18) F hiX1 0 rfl rfl 1 (by decide) dX1_append_8 (List.mem_of_getElem? (i := 1) rfl) rfl rfl ?_
  refine jy_sipush (pc' := 14) (v := 900) F dX1_append_11 (by decide) rfl ?_
  refine jy_icmp_ge (pc' := 17) (tgt := 46) F dX1_append_14 (by decide) rfl (fun h => absurd h (by decide)) (fun _ => ?_)
  refine jy_aload_n (pc' := 18) F 1 dX1_append_17 rfl rfl rfl ?_
  refine jy_get (pc' := 21) (C := RX1) (T := TX1) (N := 12) (ci := 1) (v := .ref c2) F hiX1 0 rfl rfl 4 (by decide) dX1_append_18 (List.mem_of_getElem? (i := 2) rfl) rfl rfl ?_
  refine jy_aload_n (pc' := 22) F 1 dX1_append_21 rfl rfl rfl ?_
  refine jy_get (pc' := 25) (C := RX1) (T := TX1) (N := 12) (ci := 1) (v := .int 18) F hiX1 0 rfl rfl 1 (by decide) dX1_append_22 (List.mem_of_getElem? (i := 1) rfl) rfl rfl ?_
  refine jy_iload_n (pc' := 26) F 2 dX1_append_25 rfl rfl rfl ?_
  refine jy_iload_n (pc' := 27) F 0 dX1_append_26 rfl rfl rfl ?_
  refine jy_ishr (pc' := 28) (v := (y >>> (8 &&& 31))) F dX1_append_27 rfl rfl ?_
  refine jy_i2b (pc' := 29) (v := (((y >>> (8 &&& 31))).toInt8.toInt32)) F dX1_append_28 rfl rfl ?_
  refine jy_bast (pc' := 30) (g := (upd (upd (upd fb 16 (vp_nar .byte (((y >>> (24 &&& 31))).toInt8.toInt32))) 17 (vp_nar .byte (((y >>> (16 &&& 31))).toInt8.toInt32))) 18 (vp_nar .byte (((y >>> (8 &&& 31))).toInt8.toInt32)))) (ws' := [(a2, .inr (1, [.ref c1, .int 18, .int (-1), .int (-1), .ref c2, .int 0, .int 0, .int 0, .int 0, .int 0, .ref c3, .ref c4])), (c2, .inl (k.1, 900, .inl (upd (upd (upd fb 16 (vp_nar .byte (((y >>> (24 &&& 31))).toInt8.toInt32))) 17 (vp_nar .byte (((y >>> (16 &&& 31))).toInt8.toInt32))) 18 (vp_nar .byte (((y >>> (8 &&& 31))).toInt8.toInt32)))))]) F 1 0 rfl rfl dX1_append_29 (vp_in_nI (n := 18) (by omega) (by omega)) rfl rfl rfl ?_
  refine jy_aload_n (pc' := 31) F 1 dX1_append_30 rfl rfl rfl ?_
  refine jy_dup (pc' := 32) F dX1_append_31 rfl rfl ?_
  refine jy_get (pc' := 35) (C := RX1) (T := TX1) (N := 12) (ci := 1) (v := .int 18) F hiX1 0 rfl rfl 1 (by decide) dX1_append_32 (List.mem_of_getElem? (i := 1) rfl) rfl rfl ?_
  refine jy_iconst (pc' := 36) (v := 1) F dX1_append_35 (by decide) rfl ?_
  refine jy_iadd (pc' := 37) (v := 19) F dX1_append_36 (by decide) rfl ?_
  refine jy_put (pc' := 40) (C := RX1) (T := TX1) (N := 12) (ci := 1) (ws' := [(a2, .inr (1, [.ref c1, .int 19, .int (-1), .int (-1), .ref c2, .int 0, .int 0, .int 0, .int 0, .int 0, .ref c3, .ref c4])), (c2, .inl (k.1, 900, .inl (upd (upd (upd fb 16 (vp_nar .byte (((y >>> (24 &&& 31))).toInt8.toInt32))) 17 (vp_nar .byte (((y >>> (16 &&& 31))).toInt8.toInt32))) 18 (vp_nar .byte (((y >>> (8 &&& 31))).toInt8.toInt32)))))]) F hiX1 tyX1 tyX1_ok nmX1 0 rfl rfl 1 (by decide) dX1_append_37 (List.mem_of_getElem? (i := 1) rfl) rfl rfl rfl rfl (Nat.le_of_ble_eq_true rfl) rfl rfl ?_
  refine jy_iinc (pc' := 43) (v := 0) (lv' := [(2, .int 0), (0, .ref a2), (1, .int y)]) F 0 dX1_append_40 rfl (by decide) (by decide) rfl rfl ?_
  refine jy_goto (tgt := 3) F dX1_append_43 (by decide) ?_
  refine jy_iload_n (pc' := 4) F 0 dX1_append_3 rfl rfl rfl ?_
  refine jy_if_lt (pc' := 7) (tgt := 46) F dX1_append_4 (by decide) rfl (fun h => absurd h (by decide)) (fun _ => ?_)
  refine jy_aload_n (pc' := 8) F 1 dX1_append_7 rfl rfl rfl ?_
  refine jy_get (pc' := 11) (C := RX1) (T := TX1) (N := 12) (ci := 1) (v := .int 19) F hiX1 0 rfl rfl 1 (by decide) dX1_append_8 (List.mem_of_getElem? (i := 1) rfl) rfl rfl ?_
  refine jy_sipush (pc' := 14) (v := 900) F dX1_append_11 (by decide) rfl ?_
  refine jy_icmp_ge (pc' := 17) (tgt := 46) F dX1_append_14 (by decide) rfl (fun h => absurd h (by decide)) (fun _ => ?_)
  refine jy_aload_n (pc' := 18) F 1 dX1_append_17 rfl rfl rfl ?_
  refine jy_get (pc' := 21) (C := RX1) (T := TX1) (N := 12) (ci := 1) (v := .ref c2) F hiX1 0 rfl rfl 4 (by decide) dX1_append_18 (List.mem_of_getElem? (i := 2) rfl) rfl rfl ?_
  refine jy_aload_n (pc' := 22) F 1 dX1_append_21 rfl rfl rfl ?_
  refine jy_get (pc' := 25) (C := RX1) (T := TX1) (N := 12) (ci := 1) (v := .int 19) F hiX1 0 rfl rfl 1 (by decide) dX1_append_22 (List.mem_of_getElem? (i := 1) rfl) rfl rfl ?_
  refine jy_iload_n (pc' := 26) F 2 dX1_append_25 rfl rfl rfl ?_
  refine jy_iload_n (pc' := 27) F 0 dX1_append_26 rfl rfl rfl ?_
  refine jy_ishr (pc' := 28) (v := (y >>> (0 &&& 31))) F dX1_append_27 rfl rfl ?_
  refine jy_i2b (pc' := 29) (v := (((y >>> (0 &&& 31))).toInt8.toInt32)) F dX1_append_28 rfl rfl ?_
  refine jy_bast (pc' := 30) (g := (upd (upd (upd (upd fb 16 (vp_nar .byte (((y >>> (24 &&& 31))).toInt8.toInt32))) 17 (vp_nar .byte (((y >>> (16 &&& 31))).toInt8.toInt32))) 18 (vp_nar .byte (((y >>> (8 &&& 31))).toInt8.toInt32))) 19 (vp_nar .byte (((y >>> (0 &&& 31))).toInt8.toInt32)))) (ws' := [(a2, .inr (1, [.ref c1, .int 19, .int (-1), .int (-1), .ref c2, .int 0, .int 0, .int 0, .int 0, .int 0, .ref c3, .ref c4])), (c2, .inl (k.1, 900, .inl (upd (upd (upd (upd fb 16 (vp_nar .byte (((y >>> (24 &&& 31))).toInt8.toInt32))) 17 (vp_nar .byte (((y >>> (16 &&& 31))).toInt8.toInt32))) 18 (vp_nar .byte (((y >>> (8 &&& 31))).toInt8.toInt32))) 19 (vp_nar .byte (((y >>> (0 &&& 31))).toInt8.toInt32)))))]) F 1 0 rfl rfl dX1_append_29 (vp_in_nI (n := 19) (by omega) (by omega)) rfl rfl rfl ?_
  refine jy_aload_n (pc' := 31) F 1 dX1_append_30 rfl rfl rfl ?_
  refine jy_dup (pc' := 32) F dX1_append_31 rfl rfl ?_
  refine jy_get (pc' := 35) (C := RX1) (T := TX1) (N := 12) (ci := 1) (v := .int 19) F hiX1 0 rfl rfl 1 (by decide) dX1_append_32 (List.mem_of_getElem? (i := 1) rfl) rfl rfl ?_
  refine jy_iconst (pc' := 36) (v := 1) F dX1_append_35 (by decide) rfl ?_
  refine jy_iadd (pc' := 37) (v := 20) F dX1_append_36 (by decide) rfl ?_
  refine jy_put (pc' := 40) (C := RX1) (T := TX1) (N := 12) (ci := 1) (ws' := [(a2, .inr (1, [.ref c1, .int 20, .int (-1), .int (-1), .ref c2, .int 0, .int 0, .int 0, .int 0, .int 0, .ref c3, .ref c4])), (c2, .inl (k.1, 900, .inl (upd (upd (upd (upd fb 16 (vp_nar .byte (((y >>> (24 &&& 31))).toInt8.toInt32))) 17 (vp_nar .byte (((y >>> (16 &&& 31))).toInt8.toInt32))) 18 (vp_nar .byte (((y >>> (8 &&& 31))).toInt8.toInt32))) 19 (vp_nar .byte (((y >>> (0 &&& 31))).toInt8.toInt32)))))]) F hiX1 tyX1 tyX1_ok nmX1 0 rfl rfl 1 (by decide) dX1_append_37 (List.mem_of_getElem? (i := 1) rfl) rfl rfl rfl rfl (Nat.le_of_ble_eq_true rfl) rfl rfl ?_
  refine jy_iinc (pc' := 43) (v := (-8)) (lv' := [(2, .int (-8)), (0, .ref a2), (1, .int y)]) F 0 dX1_append_40 rfl (by decide) (by decide) rfl rfl ?_
  refine jy_goto (tgt := 3) F dX1_append_43 (by decide) ?_
  refine jy_iload_n (pc' := 4) F 0 dX1_append_3 rfl rfl rfl ?_
  refine jy_if_lt (pc' := 7) (tgt := 46) F dX1_append_4 (by decide) rfl (fun _ => ?_) (fun h => absurd h (by decide))
  refine jy_widen (cells' := 0) (slots' := 0) (by decide) (by decide) ?_
  exact jy_vret F hr hlk ((upd (upd (upd (upd fb 16 (vp_nar .byte (((y >>> (24 &&& 31))).toInt8.toInt32))) 17 (vp_nar .byte (((y >>> (16 &&& 31))).toInt8.toInt32))) 18 (vp_nar .byte (((y >>> (8 &&& 31))).toInt8.toInt32))) 19 (vp_nar .byte (((y >>> (0 &&& 31))).toInt8.toInt32)))) (trivial) [0, 1] rfl (by decide) dX1_append_46
abbrev cX11_feed : ByteArray := prog_1_method_9_code
def yX11_feed : MethodName := ⟨RX11, "feed", "(IIIII)I"⟩
theorem hdX11_feed : yX11_feed.cls ≠ "java/lang/invoke/MethodHandle" ∧ yX11_feed.cls ≠ "java/lang/invoke/VarHandle" ∧ (parseMethodDescriptor yX11_feed.desc).map (fun d => d.parameters.length) = some 5 := by decide +kernel
theorem dX11_feed_0 : decode cX11_feed 0 = .ok (.aload_n 0, 1) := by decide +kernel
theorem dX11_feed_1 : decode cX11_feed 1 = .ok (.getfield 19, 3) := by decide +kernel
theorem dX11_feed_4 : decode cX11_feed 4 = .ok (.getfield 126, 3) := by decide +kernel
theorem dX11_feed_7 : decode cX11_feed 7 = .ok (.bipush 20, 2) := by decide +kernel
theorem dX11_feed_9 : decode cX11_feed 9 = .ok (.iadd, 1) := by decide +kernel
theorem dX11_feed_10 : decode cX11_feed 10 = .ok (.sipush 900, 3) := by decide +kernel
theorem dX11_feed_13 : decode cX11_feed 13 = .ok (.if_icmp .le 5, 3) := by decide +kernel
theorem dX11_feed_18 : decode cX11_feed 18 = .ok (.aload_n 0, 1) := by decide +kernel
theorem dX11_feed_19 : decode cX11_feed 19 = .ok (.getfield 19, 3) := by decide +kernel
theorem dX11_feed_22 : decode cX11_feed 22 = .ok (.iload_n 1, 1) := by decide +kernel
theorem dX11_feed_23 : decode cX11_feed 23 = .ok (.invokevirtual 129, 3) := by decide +kernel
theorem dX11_feed_26 : decode cX11_feed 26 = .ok (.aload_n 0, 1) := by decide +kernel
theorem dX11_feed_27 : decode cX11_feed 27 = .ok (.getfield 19, 3) := by decide +kernel
theorem dX11_feed_30 : decode cX11_feed 30 = .ok (.iload_n 2, 1) := by decide +kernel
theorem dX11_feed_31 : decode cX11_feed 31 = .ok (.invokevirtual 129, 3) := by decide +kernel
theorem dX11_feed_34 : decode cX11_feed 34 = .ok (.aload_n 0, 1) := by decide +kernel
theorem dX11_feed_35 : decode cX11_feed 35 = .ok (.getfield 19, 3) := by decide +kernel
theorem dX11_feed_38 : decode cX11_feed 38 = .ok (.iload_n 3, 1) := by decide +kernel
theorem dX11_feed_39 : decode cX11_feed 39 = .ok (.invokevirtual 129, 3) := by decide +kernel
theorem dX11_feed_42 : decode cX11_feed 42 = .ok (.aload_n 0, 1) := by decide +kernel
theorem dX11_feed_43 : decode cX11_feed 43 = .ok (.getfield 19, 3) := by decide +kernel
theorem dX11_feed_46 : decode cX11_feed 46 = .ok (.iload 4, 2) := by decide +kernel
theorem dX11_feed_48 : decode cX11_feed 48 = .ok (.invokevirtual 129, 3) := by decide +kernel
theorem dX11_feed_51 : decode cX11_feed 51 = .ok (.aload_n 0, 1) := by decide +kernel
theorem dX11_feed_52 : decode cX11_feed 52 = .ok (.getfield 19, 3) := by decide +kernel
theorem dX11_feed_55 : decode cX11_feed 55 = .ok (.iload 5, 2) := by decide +kernel
theorem dX11_feed_57 : decode cX11_feed 57 = .ok (.invokevirtual 129, 3) := by decide +kernel
theorem dX11_feed_60 : decode cX11_feed 60 = .ok (.aload_n 0, 1) := by decide +kernel
theorem dX11_feed_61 : decode cX11_feed 61 = .ok (.getfield 19, 3) := by decide +kernel
theorem dX11_feed_64 : decode cX11_feed 64 = .ok (.getfield 126, 3) := by decide +kernel
theorem dX11_feed_67 : decode cX11_feed 67 = .ok (.ireturn, 1) := by decide +kernel
def ws_c_X11_feed : List Cond := .code yX11_feed cX11_feed 6 (some .int) :: ([.fieldLink "NestedChecker" 19 "NestedChecker" "reader" "LNestedChecker$Reader;", .fieldLink "NestedChecker" 126 "NestedChecker$Reader" "taped" "I", .code ⟨"NestedChecker$Reader", "append", "(I)V"⟩ cX1_append 3 none, .fieldLink "NestedChecker$Reader" 36 "NestedChecker$Reader" "taped" "I", .fieldLink "NestedChecker$Reader" 25 "NestedChecker$Reader" "tape" "[B", .initialized "NestedChecker$Reader", .instanceMethod ⟨"NestedChecker$Reader", "append", "(I)V"⟩, .selects "NestedChecker$Reader" ⟨"NestedChecker$Reader", "append", "(I)V"⟩ ⟨"NestedChecker$Reader", "append", "(I)V"⟩, .methodLink "NestedChecker" 129 ⟨"NestedChecker$Reader", "append", "(I)V"⟩] ++ wsX110 ++ wsX10)
set_option maxRecDepth 20000 in
theorem g_c_X11_feed_c_X1_append_0 : GoodIn ws_c_X11_feed ws_c_X1_append_0 := goodIn_r _ [3, 4, 5, 25, 26, 27, 28, 29, 30, 31, 32, 33, 34, 35, 36] (by decide +kernel) (by decide +kernel)
set_option maxRecDepth 20000 in
theorem g_c_X11_feed_c_X1_append_4 : GoodIn ws_c_X11_feed ws_c_X1_append_4 := goodIn_r _ [3, 4, 5, 25, 26, 27, 28, 29, 30, 31, 32, 33, 34, 35, 36] (by decide +kernel) (by decide +kernel)
set_option maxRecDepth 20000 in
theorem g_c_X11_feed_c_X1_append_8 : GoodIn ws_c_X11_feed ws_c_X1_append_8 := goodIn_r _ [3, 4, 5, 25, 26, 27, 28, 29, 30, 31, 32, 33, 34, 35, 36] (by decide +kernel) (by decide +kernel)
set_option maxRecDepth 20000 in
theorem g_c_X11_feed_c_X1_append_12 : GoodIn ws_c_X11_feed ws_c_X1_append_12 := goodIn_r _ [3, 4, 5, 25, 26, 27, 28, 29, 30, 31, 32, 33, 34, 35, 36] (by decide +kernel) (by decide +kernel)
set_option maxRecDepth 20000 in
theorem g_c_X11_feed_c_X1_append_16 : GoodIn ws_c_X11_feed ws_c_X1_append_16 := goodIn_r _ [3, 4, 5, 25, 26, 27, 28, 29, 30, 31, 32, 33, 34, 35, 36] (by decide +kernel) (by decide +kernel)
set_option maxHeartbeats 4000000 in
set_option maxRecDepth 100000 in
theorem c_X11_feed (l : Launch) (D : va_G) (k : jK) (h0 : Nat) (a2 : Nat) (a4 : Nat) (a5 : Nat) (a6 : Nat) (a7 : Nat) (a8 : Nat) (a9 : Nat) (a10 : Nat) (t0 : Nat) (s0 : Nat) (c1 : Nat) (c2 : Nat) (c3 : Nat) (c4 : Nat) (fb : Nat → Int32) (i1 : Int32) (i2 : Int32) (i3 : Int32) (i4 : Int32) (i5 : Int32) (sz : Nat)  : Met l yX11_feed ws_c_X11_feed ({ frames := 1, cells := 0, slots := 0, locals := 22 }) (jy_P [.ref h0, .int i1, .int i2, .int i3, .int i4, .int i5] D vwCl (jT k) jW [(h0, .inr (10, [.int 0, .long 0, .long 1, .ref t0, .ref a2, .ref s0, .ref a4, .int 0, .ref a5, .ref a6, .ref a7, .ref a8, .ref a9, .ref a10, .int 0])), (a2, .inr (1, [.ref c1, .int 0, .int (-1), .int (-1), .ref c2, .int 0, .int 0, .int 0, .int 0, .int 0, .ref c3, .ref c4])), (c2, .inl (k.1, 900, .inl fb))] sz) (va_Qi (fun (r : Int32) (u : Unit) => r = 20) (jy_B D vwCl (va_A [(h0, .inr (10, [.int 0, .long 0, .long 1, .ref t0, .ref a2, .ref s0, .ref a4, .int 0, .ref a5, .ref a6, .ref a7, .ref a8, .ref a9, .ref a10, .int 0])), (a2, .inr (1, [.ref c1, .int 0, .int (-1), .int (-1), .ref c2, .int 0, .int 0, .int 0, .int 0, .int 0, .ref c3, .ref c4])), (c2, .inl (k.1, 900, .inl fb))] sz) (fun (u : Unit) => [])) (va_A [(h0, .inr (10, [.int 0, .long 0, .long 1, .ref t0, .ref a2, .ref s0, .ref a4, .int 0, .ref a5, .ref a6, .ref a7, .ref a8, .ref a9, .ref a10, .int 0])), (a2, .inr (1, [.ref c1, .int 0, .int (-1), .int (-1), .ref c2, .int 0, .int 0, .int 0, .int 0, .int 0, .ref c3, .ref c4])), (c2, .inl (k.1, 900, .inl fb))] sz)) 0 0 (va_A [(h0, .inr (10, [.int 0, .long 0, .long 1, .ref t0, .ref a2, .ref s0, .ref a4, .int 0, .ref a5, .ref a6, .ref a7, .ref a8, .ref a9, .ref a10, .int 0])), (a2, .inr (1, [.ref c1, .int 0, .int (-1), .int (-1), .ref c2, .int 0, .int 0, .int 0, .int 0, .int 0, .ref c3, .ref c4])), (c2, .inl (k.1, 900, .inl fb))] sz) := by
  refine jy_met (cc := cX11_feed) (maxL := 6) (ret := (some .int)) (lv := [(0, .ref h0), (1, .int i1), (2, .int i2), (3, .int i3), (4, .int i4), (5, .int i5)]) (by decide) rfl (Nat.le_of_ble_eq_true rfl) rfl ?_
  intro p e s m below meth c F hr hlk hnm hN hA
  have hiX11 : ∀ w ∈ u_ws RX11 TX11 15, w ∈ ws_c_X11_feed := fun w hw => List.mem_cons_of_mem _ (List.mem_append_left _ (List.mem_append_right _ hw))
  have hiX1 : ∀ w ∈ u_ws RX1 TX1 12, w ∈ ws_c_X11_feed := fun w hw => List.mem_cons_of_mem _ (List.mem_append_right _ hw)
  refine jy_aload_n (pc' := 1) F 0 dX11_feed_0 rfl rfl rfl ?_
  refine jy_get (pc' := 4) (C := RX11) (T := TX11) (N := 15) (ci := 10) (v := .ref a2) F hiX11 0 rfl rfl 4 (by decide) dX11_feed_1 (List.mem_of_getElem? (i := 1) rfl) rfl rfl ?_
  refine jy_get (pc' := 7) (C := RX1) (T := TX1) (N := 12) (ci := 1) (v := .int 0) F hiX1 1 rfl rfl 1 (by decide) dX11_feed_4 (List.mem_of_getElem? (i := 2) rfl) rfl rfl ?_
  refine jy_bipush (pc' := 9) (v := 20) F dX11_feed_7 (by decide) rfl ?_
  refine jy_iadd (pc' := 10) (v := 20) F dX11_feed_9 (by decide) rfl ?_
  refine jy_sipush (pc' := 13) (v := 900) F dX11_feed_10 (by decide) rfl ?_
  refine jy_icmp_le (pc' := 16) (tgt := 18) F dX11_feed_13 (by decide) rfl (fun _ => ?_) (fun h => absurd h (by decide))
  refine jy_aload_n (pc' := 19) F 0 dX11_feed_18 rfl rfl rfl ?_
  refine jy_get (pc' := 22) (C := RX11) (T := TX11) (N := 15) (ci := 10) (v := .ref a2) F hiX11 0 rfl rfl 4 (by decide) dX11_feed_19 (List.mem_of_getElem? (i := 1) rfl) rfl rfl ?_
  refine jy_iload_n (pc' := 23) F 1 dX11_feed_22 rfl rfl rfl ?_
  refine jy_callv (pc' := 26) (cells' := 0) (slots' := 0) (wr := [(h0, .inr (10, [.int 0, .long 0, .long 1, .ref t0, .ref a2, .ref s0, .ref a4, .int 0, .ref a5, .ref a6, .ref a7, .ref a8, .ref a9, .ref a10, .int 0]))]) hA [1, 2] [0] rfl rfl (by decide) (by decide) (jy_runV (As := [.int i1]) (b := a2) (q0 := 1) (ci := 1) (C := RX1) (T := TX1) (N := 12) (st := []) F hN (fun sz => c_X1_append_0 l D k a2 c1 c2 c3 c4 fb i1 sz ) (jy_cV F g_c_X11_feed_c_X1_append_0 rfl hdX1_append (List.mem_of_getElem? (i := 6) rfl) (List.mem_of_getElem? (i := 9) rfl) (List.mem_of_getElem? (i := 7) rfl) (List.mem_of_getElem? (i := 8) rfl) rfl rfl ⟨by decide, by decide⟩) rfl rfl [1, 2] rfl (by decide) rfl rfl (Nat.le_of_ble_eq_true rfl) dX11_feed_23 ⟨by decide, by decide⟩) rfl rfl rfl (fun u_2 e_3 => ?_)
  obtain ⟨f_4, rfl⟩ : ∃ z, z = u_2 := ⟨_, rfl⟩
  refine jy_ws (ws' := [(h0, .inr (10, [.int 0, .long 0, .long 1, .ref t0, .ref a2, .ref s0, .ref a4, .int 0, .ref a5, .ref a6, .ref a7, .ref a8, .ref a9, .ref a10, .int 0])), (a2, .inr (1, [.ref c1, .int 4, .int (-1), .int (-1), .ref c2, .int 0, .int 0, .int 0, .int 0, .int 0, .ref c3, .ref c4])), (c2, .inl (k.1, 900, .inl f_4))]) rfl ?_
  refine jy_aload_n (pc' := 27) F 0 dX11_feed_26 rfl rfl rfl ?_
  refine jy_get (pc' := 30) (C := RX11) (T := TX11) (N := 15) (ci := 10) (v := .ref a2) F hiX11 0 rfl rfl 4 (by decide) dX11_feed_27 (List.mem_of_getElem? (i := 1) rfl) rfl rfl ?_
  refine jy_iload_n (pc' := 31) F 2 dX11_feed_30 rfl rfl rfl ?_
  refine jy_callv (pc' := 34) (cells' := 0) (slots' := 0) (wr := [(h0, .inr (10, [.int 0, .long 0, .long 1, .ref t0, .ref a2, .ref s0, .ref a4, .int 0, .ref a5, .ref a6, .ref a7, .ref a8, .ref a9, .ref a10, .int 0]))]) hA [1, 2] [0] rfl rfl (by decide) (by decide) (jy_runV (As := [.int i2]) (b := a2) (q0 := 1) (ci := 1) (C := RX1) (T := TX1) (N := 12) (st := []) F hN (fun sz => c_X1_append_4 l D k a2 c1 c2 c3 c4 f_4 i2 sz ) (jy_cV F g_c_X11_feed_c_X1_append_4 rfl hdX1_append (List.mem_of_getElem? (i := 6) rfl) (List.mem_of_getElem? (i := 9) rfl) (List.mem_of_getElem? (i := 7) rfl) (List.mem_of_getElem? (i := 8) rfl) rfl rfl ⟨by decide, by decide⟩) rfl rfl [1, 2] rfl (by decide) rfl rfl (Nat.le_of_ble_eq_true rfl) dX11_feed_31 ⟨by decide, by decide⟩) rfl rfl rfl (fun u_5 e_6 => ?_)
  obtain ⟨f_7, rfl⟩ : ∃ z, z = u_5 := ⟨_, rfl⟩
  refine jy_ws (ws' := [(h0, .inr (10, [.int 0, .long 0, .long 1, .ref t0, .ref a2, .ref s0, .ref a4, .int 0, .ref a5, .ref a6, .ref a7, .ref a8, .ref a9, .ref a10, .int 0])), (a2, .inr (1, [.ref c1, .int 8, .int (-1), .int (-1), .ref c2, .int 0, .int 0, .int 0, .int 0, .int 0, .ref c3, .ref c4])), (c2, .inl (k.1, 900, .inl f_7))]) rfl ?_
  refine jy_aload_n (pc' := 35) F 0 dX11_feed_34 rfl rfl rfl ?_
  refine jy_get (pc' := 38) (C := RX11) (T := TX11) (N := 15) (ci := 10) (v := .ref a2) F hiX11 0 rfl rfl 4 (by decide) dX11_feed_35 (List.mem_of_getElem? (i := 1) rfl) rfl rfl ?_
  refine jy_iload_n (pc' := 39) F 3 dX11_feed_38 rfl rfl rfl ?_
  refine jy_callv (pc' := 42) (cells' := 0) (slots' := 0) (wr := [(h0, .inr (10, [.int 0, .long 0, .long 1, .ref t0, .ref a2, .ref s0, .ref a4, .int 0, .ref a5, .ref a6, .ref a7, .ref a8, .ref a9, .ref a10, .int 0]))]) hA [1, 2] [0] rfl rfl (by decide) (by decide) (jy_runV (As := [.int i3]) (b := a2) (q0 := 1) (ci := 1) (C := RX1) (T := TX1) (N := 12) (st := []) F hN (fun sz => c_X1_append_8 l D k a2 c1 c2 c3 c4 f_7 i3 sz ) (jy_cV F g_c_X11_feed_c_X1_append_8 rfl hdX1_append (List.mem_of_getElem? (i := 6) rfl) (List.mem_of_getElem? (i := 9) rfl) (List.mem_of_getElem? (i := 7) rfl) (List.mem_of_getElem? (i := 8) rfl) rfl rfl ⟨by decide, by decide⟩) rfl rfl [1, 2] rfl (by decide) rfl rfl (Nat.le_of_ble_eq_true rfl) dX11_feed_39 ⟨by decide, by decide⟩) rfl rfl rfl (fun u_8 e_9 => ?_)
  obtain ⟨f_10, rfl⟩ : ∃ z, z = u_8 := ⟨_, rfl⟩
  refine jy_ws (ws' := [(h0, .inr (10, [.int 0, .long 0, .long 1, .ref t0, .ref a2, .ref s0, .ref a4, .int 0, .ref a5, .ref a6, .ref a7, .ref a8, .ref a9, .ref a10, .int 0])), (a2, .inr (1, [.ref c1, .int 12, .int (-1), .int (-1), .ref c2, .int 0, .int 0, .int 0, .int 0, .int 0, .ref c3, .ref c4])), (c2, .inl (k.1, 900, .inl f_10))]) rfl ?_
  refine jy_aload_n (pc' := 43) F 0 dX11_feed_42 rfl rfl rfl ?_
  refine jy_get (pc' := 46) (C := RX11) (T := TX11) (N := 15) (ci := 10) (v := .ref a2) F hiX11 0 rfl rfl 4 (by decide) dX11_feed_43 (List.mem_of_getElem? (i := 1) rfl) rfl rfl ?_
  refine jy_iload (pc' := 48) F 4 dX11_feed_46 rfl rfl ?_
  refine jy_callv (pc' := 51) (cells' := 0) (slots' := 0) (wr := [(h0, .inr (10, [.int 0, .long 0, .long 1, .ref t0, .ref a2, .ref s0, .ref a4, .int 0, .ref a5, .ref a6, .ref a7, .ref a8, .ref a9, .ref a10, .int 0]))]) hA [1, 2] [0] rfl rfl (by decide) (by decide) (jy_runV (As := [.int i4]) (b := a2) (q0 := 1) (ci := 1) (C := RX1) (T := TX1) (N := 12) (st := []) F hN (fun sz => c_X1_append_12 l D k a2 c1 c2 c3 c4 f_10 i4 sz ) (jy_cV F g_c_X11_feed_c_X1_append_12 rfl hdX1_append (List.mem_of_getElem? (i := 6) rfl) (List.mem_of_getElem? (i := 9) rfl) (List.mem_of_getElem? (i := 7) rfl) (List.mem_of_getElem? (i := 8) rfl) rfl rfl ⟨by decide, by decide⟩) rfl rfl [1, 2] rfl (by decide) rfl rfl (Nat.le_of_ble_eq_true rfl) dX11_feed_48 ⟨by decide, by decide⟩) rfl rfl rfl (fun u_11 e_12 => ?_)
  obtain ⟨f_13, rfl⟩ : ∃ z, z = u_11 := ⟨_, rfl⟩
  refine jy_ws (ws' := [(h0, .inr (10, [.int 0, .long 0, .long 1, .ref t0, .ref a2, .ref s0, .ref a4, .int 0, .ref a5, .ref a6, .ref a7, .ref a8, .ref a9, .ref a10, .int 0])), (a2, .inr (1, [.ref c1, .int 16, .int (-1), .int (-1), .ref c2, .int 0, .int 0, .int 0, .int 0, .int 0, .ref c3, .ref c4])), (c2, .inl (k.1, 900, .inl f_13))]) rfl ?_
  refine jy_aload_n (pc' := 52) F 0 dX11_feed_51 rfl rfl rfl ?_
  refine jy_get (pc' := 55) (C := RX11) (T := TX11) (N := 15) (ci := 10) (v := .ref a2) F hiX11 0 rfl rfl 4 (by decide) dX11_feed_52 (List.mem_of_getElem? (i := 1) rfl) rfl rfl ?_
  refine jy_iload (pc' := 57) F 5 dX11_feed_55 rfl rfl ?_
  refine jy_callv (pc' := 60) (cells' := 0) (slots' := 0) (wr := [(h0, .inr (10, [.int 0, .long 0, .long 1, .ref t0, .ref a2, .ref s0, .ref a4, .int 0, .ref a5, .ref a6, .ref a7, .ref a8, .ref a9, .ref a10, .int 0]))]) hA [1, 2] [0] rfl rfl (by decide) (by decide) (jy_runV (As := [.int i5]) (b := a2) (q0 := 1) (ci := 1) (C := RX1) (T := TX1) (N := 12) (st := []) F hN (fun sz => c_X1_append_16 l D k a2 c1 c2 c3 c4 f_13 i5 sz ) (jy_cV F g_c_X11_feed_c_X1_append_16 rfl hdX1_append (List.mem_of_getElem? (i := 6) rfl) (List.mem_of_getElem? (i := 9) rfl) (List.mem_of_getElem? (i := 7) rfl) (List.mem_of_getElem? (i := 8) rfl) rfl rfl ⟨by decide, by decide⟩) rfl rfl [1, 2] rfl (by decide) rfl rfl (Nat.le_of_ble_eq_true rfl) dX11_feed_57 ⟨by decide, by decide⟩) rfl rfl rfl (fun u_14 e_15 => ?_)
  obtain ⟨f_16, rfl⟩ : ∃ z, z = u_14 := ⟨_, rfl⟩
  refine jy_ws (ws' := [(h0, .inr (10, [.int 0, .long 0, .long 1, .ref t0, .ref a2, .ref s0, .ref a4, .int 0, .ref a5, .ref a6, .ref a7, .ref a8, .ref a9, .ref a10, .int 0])), (a2, .inr (1, [.ref c1, .int 20, .int (-1), .int (-1), .ref c2, .int 0, .int 0, .int 0, .int 0, .int 0, .ref c3, .ref c4])), (c2, .inl (k.1, 900, .inl f_16))]) rfl ?_
  refine jy_aload_n (pc' := 61) F 0 dX11_feed_60 rfl rfl rfl ?_
  refine jy_get (pc' := 64) (C := RX11) (T := TX11) (N := 15) (ci := 10) (v := .ref a2) F hiX11 0 rfl rfl 4 (by decide) dX11_feed_61 (List.mem_of_getElem? (i := 1) rfl) rfl rfl ?_
  refine jy_get (pc' := 67) (C := RX1) (T := TX1) (N := 12) (ci := 1) (v := .int 20) F hiX1 1 rfl rfl 1 (by decide) dX11_feed_64 (List.mem_of_getElem? (i := 2) rfl) rfl rfl ?_
  refine jy_widen (cells' := 0) (slots' := 0) (by decide) (by decide) ?_
  exact jy_iret (v := 20) F hr hlk () (rfl) [] rfl (by decide) dX11_feed_67
abbrev cX11_fault : ByteArray := prog_1_method_11_code
def yX11_fault : MethodName := ⟨RX11, "fault", "(I)I"⟩
theorem hdX11_fault : yX11_fault.cls ≠ "java/lang/invoke/MethodHandle" ∧ yX11_fault.cls ≠ "java/lang/invoke/VarHandle" ∧ (parseMethodDescriptor yX11_fault.desc).map (fun d => d.parameters.length) = some 1 := by decide +kernel
theorem dX11_fault_0 : decode cX11_fault 0 = .ok (.iload_n 1, 1) := by decide +kernel
theorem dX11_fault_1 : decode cX11_fault 1 = .ok (.ifCond .ne 11, 3) := by decide +kernel
theorem dX11_fault_4 : decode cX11_fault 4 = .ok (.aload_n 0, 1) := by decide +kernel
theorem dX11_fault_5 : decode cX11_fault 5 = .ok (.getfield 19, 3) := by decide +kernel
theorem dX11_fault_8 : decode cX11_fault 8 = .ok (.getfield 148, 3) := by decide +kernel
theorem dX11_fault_11 : decode cX11_fault 11 = .ok (.ireturn, 1) := by decide +kernel
theorem dX11_fault_12 : decode cX11_fault 12 = .ok (.iload_n 1, 1) := by decide +kernel
theorem dX11_fault_13 : decode cX11_fault 13 = .ok (.iconst 1, 1) := by decide +kernel
theorem dX11_fault_14 : decode cX11_fault 14 = .ok (.if_icmp .ne 13, 3) := by decide +kernel
theorem dX11_fault_17 : decode cX11_fault 17 = .ok (.aload_n 0, 1) := by decide +kernel
theorem dX11_fault_18 : decode cX11_fault 18 = .ok (.getfield 19, 3) := by decide +kernel
theorem dX11_fault_21 : decode cX11_fault 21 = .ok (.getfield 151, 3) := by decide +kernel
theorem dX11_fault_24 : decode cX11_fault 24 = .ok (.goto 4, 3) := by decide +kernel
theorem dX11_fault_27 : decode cX11_fault 27 = .ok (.iconst (-1), 1) := by decide +kernel
theorem dX11_fault_28 : decode cX11_fault 28 = .ok (.ireturn, 1) := by decide +kernel
def ws_c_X11_fault : List Cond := .code yX11_fault cX11_fault 2 (some .int) :: ([.fieldLink "NestedChecker" 19 "NestedChecker" "reader" "LNestedChecker$Reader;", .fieldLink "NestedChecker" 151 "NestedChecker$Reader" "faultPlace" "I", .fieldLink "NestedChecker" 148 "NestedChecker$Reader" "faultKind" "I"] ++ wsX110 ++ wsX10)
set_option maxHeartbeats 4000000 in
set_option maxRecDepth 100000 in
theorem c_X11_fault (l : Launch) (D : va_G) (k : jK) (h0 : Nat) (a2 : Nat) (a4 : Nat) (a5 : Nat) (a6 : Nat) (a7 : Nat) (a8 : Nat) (a9 : Nat) (a10 : Nat) (t0 : Nat) (s0 : Nat) (c1 : Nat) (c2 : Nat) (c3 : Nat) (c4 : Nat) (i1 : Int32) (sz : Nat)  : Met l yX11_fault ws_c_X11_fault ({ frames := 0, cells := 0, slots := 0, locals := 0 }) (jy_P [.ref h0, .int i1] D vwCl (jT k) jW [(h0, .inr (10, [.int 0, .long 0, .long 1, .ref t0, .ref a2, .ref s0, .ref a4, .int 0, .ref a5, .ref a6, .ref a7, .ref a8, .ref a9, .ref a10, .int 0])), (a2, .inr (1, [.ref c1, .int 0, .int (-1), .int (-1), .ref c2, .int 0, .int 0, .int 0, .int 0, .int 0, .ref c3, .ref c4]))] sz) (va_Qi (fun (r : Int32) (u : Unit) => r = -1) (jy_B D vwCl (va_A [(h0, .inr (10, [.int 0, .long 0, .long 1, .ref t0, .ref a2, .ref s0, .ref a4, .int 0, .ref a5, .ref a6, .ref a7, .ref a8, .ref a9, .ref a10, .int 0])), (a2, .inr (1, [.ref c1, .int 0, .int (-1), .int (-1), .ref c2, .int 0, .int 0, .int 0, .int 0, .int 0, .ref c3, .ref c4]))] sz) (fun (u : Unit) => [])) (va_A [(h0, .inr (10, [.int 0, .long 0, .long 1, .ref t0, .ref a2, .ref s0, .ref a4, .int 0, .ref a5, .ref a6, .ref a7, .ref a8, .ref a9, .ref a10, .int 0])), (a2, .inr (1, [.ref c1, .int 0, .int (-1), .int (-1), .ref c2, .int 0, .int 0, .int 0, .int 0, .int 0, .ref c3, .ref c4]))] sz)) 0 0 (va_A [(h0, .inr (10, [.int 0, .long 0, .long 1, .ref t0, .ref a2, .ref s0, .ref a4, .int 0, .ref a5, .ref a6, .ref a7, .ref a8, .ref a9, .ref a10, .int 0])), (a2, .inr (1, [.ref c1, .int 0, .int (-1), .int (-1), .ref c2, .int 0, .int 0, .int 0, .int 0, .int 0, .ref c3, .ref c4]))] sz) := by
  refine jy_met (cc := cX11_fault) (maxL := 2) (ret := (some .int)) (lv := [(0, .ref h0), (1, .int i1)]) (by decide) rfl (Nat.le_of_ble_eq_true rfl) rfl ?_
  intro p e s m below meth c F hr hlk hnm hN hA
  have hiX11 : ∀ w ∈ u_ws RX11 TX11 15, w ∈ ws_c_X11_fault := fun w hw => List.mem_cons_of_mem _ (List.mem_append_left _ (List.mem_append_right _ hw))
  have hiX1 : ∀ w ∈ u_ws RX1 TX1 12, w ∈ ws_c_X11_fault := fun w hw => List.mem_cons_of_mem _ (List.mem_append_right _ hw)
  refine jy_iload_n (pc' := 1) F 1 dX11_fault_0 rfl rfl rfl ?_
  refine jy_if_ne (pc' := 4) (tgt := 12) F dX11_fault_1 (by decide) rfl (fun h_1 => ?_) (fun h_1 => ?_)
  · refine jy_iload_n (pc' := 13) F 1 dX11_fault_12 rfl rfl rfl ?_
    refine jy_iconst (pc' := 14) (v := 1) F dX11_fault_13 (by decide) rfl ?_
    refine jy_icmp_ne (pc' := 17) (tgt := 27) F dX11_fault_14 (by decide) rfl (fun h_2 => ?_) (fun h_2 => ?_)
    · refine jy_iconst (pc' := 28) (v := (-1)) F dX11_fault_27 (by decide) rfl ?_
      refine jy_widen (cells' := 0) (slots' := 0) (by decide) (by decide) ?_
      exact jy_iret (v := (-1)) F hr hlk () (rfl) [] rfl (by decide) dX11_fault_28
    · refine jy_aload_n (pc' := 18) F 0 dX11_fault_17 rfl rfl rfl ?_
      refine jy_get (pc' := 21) (C := RX11) (T := TX11) (N := 15) (ci := 10) (v := .ref a2) F hiX11 0 rfl rfl 4 (by decide) dX11_fault_18 (List.mem_of_getElem? (i := 1) rfl) rfl rfl ?_
      refine jy_get (pc' := 24) (C := RX1) (T := TX1) (N := 12) (ci := 1) (v := .int (-1)) F hiX1 1 rfl rfl 3 (by decide) dX11_fault_21 (List.mem_of_getElem? (i := 2) rfl) rfl rfl ?_
      refine jy_goto (tgt := 28) F dX11_fault_24 (by decide) ?_
      refine jy_widen (cells' := 0) (slots' := 0) (by decide) (by decide) ?_
      exact jy_iret (v := (-1)) F hr hlk () (rfl) [] rfl (by decide) dX11_fault_28
  · refine jy_aload_n (pc' := 5) F 0 dX11_fault_4 rfl rfl rfl ?_
    refine jy_get (pc' := 8) (C := RX11) (T := TX11) (N := 15) (ci := 10) (v := .ref a2) F hiX11 0 rfl rfl 4 (by decide) dX11_fault_5 (List.mem_of_getElem? (i := 1) rfl) rfl rfl ?_
    refine jy_get (pc' := 11) (C := RX1) (T := TX1) (N := 12) (ci := 1) (v := .int (-1)) F hiX1 1 rfl rfl 2 (by decide) dX11_fault_8 (List.mem_of_getElem? (i := 3) rfl) rfl rfl ?_
    refine jy_widen (cells' := 0) (slots' := 0) (by decide) (by decide) ?_
    exact jy_iret (v := (-1)) F hr hlk () (rfl) [] rfl (by decide) dX11_fault_11
abbrev cX11_told : ByteArray := prog_1_method_12_code
def yX11_told : MethodName := ⟨RX11, "told", "(I)I"⟩
theorem hdX11_told : yX11_told.cls ≠ "java/lang/invoke/MethodHandle" ∧ yX11_told.cls ≠ "java/lang/invoke/VarHandle" ∧ (parseMethodDescriptor yX11_told.desc).map (fun d => d.parameters.length) = some 1 := by decide +kernel
theorem dX11_told_0 : decode cX11_told 0 = .ok (.iload_n 1, 1) := by decide +kernel
theorem dX11_told_1 : decode cX11_told 1 = .ok (.tableswitch 95 0 3 #[31, 43, 63, 83], 31) := by decide +kernel
theorem dX11_told_32 : decode cX11_told 32 = .ok (.aload_n 0, 1) := by decide +kernel
theorem dX11_told_33 : decode cX11_told 33 = .ok (.aload_n 0, 1) := by decide +kernel
theorem dX11_told_34 : decode cX11_told 34 = .ok (.getfield 26, 3) := by decide +kernel
theorem dX11_told_37 : decode cX11_told 37 = .ok (.getfield 154, 3) := by decide +kernel
theorem dX11_told_40 : decode cX11_told 40 = .ok (.invokevirtual 145, 3) := by decide +kernel
theorem dX11_told_43 : decode cX11_told 43 = .ok (.ireturn, 1) := by decide +kernel
theorem dX11_told_44 : decode cX11_told 44 = .ok (.aload_n 0, 1) := by decide +kernel
theorem dX11_told_45 : decode cX11_told 45 = .ok (.aload_n 0, 1) := by decide +kernel
theorem dX11_told_46 : decode cX11_told 46 = .ok (.getfield 26, 3) := by decide +kernel
theorem dX11_told_49 : decode cX11_told 49 = .ok (.getfield 157, 3) := by decide +kernel
theorem dX11_told_52 : decode cX11_told 52 = .ok (.aload_n 0, 1) := by decide +kernel
theorem dX11_told_53 : decode cX11_told 53 = .ok (.getfield 26, 3) := by decide +kernel
theorem dX11_told_56 : decode cX11_told 56 = .ok (.getfield 154, 3) := by decide +kernel
theorem dX11_told_59 : decode cX11_told 59 = .ok (.isub, 1) := by decide +kernel
theorem dX11_told_60 : decode cX11_told 60 = .ok (.invokevirtual 145, 3) := by decide +kernel
theorem dX11_told_63 : decode cX11_told 63 = .ok (.ireturn, 1) := by decide +kernel
theorem dX11_told_64 : decode cX11_told 64 = .ok (.aload_n 0, 1) := by decide +kernel
theorem dX11_told_65 : decode cX11_told 65 = .ok (.aload_n 0, 1) := by decide +kernel
theorem dX11_told_66 : decode cX11_told 66 = .ok (.getfield 26, 3) := by decide +kernel
theorem dX11_told_69 : decode cX11_told 69 = .ok (.getfield 160, 3) := by decide +kernel
theorem dX11_told_72 : decode cX11_told 72 = .ok (.aload_n 0, 1) := by decide +kernel
theorem dX11_told_73 : decode cX11_told 73 = .ok (.getfield 26, 3) := by decide +kernel
theorem dX11_told_76 : decode cX11_told 76 = .ok (.getfield 157, 3) := by decide +kernel
theorem dX11_told_79 : decode cX11_told 79 = .ok (.isub, 1) := by decide +kernel
theorem dX11_told_80 : decode cX11_told 80 = .ok (.invokevirtual 145, 3) := by decide +kernel
theorem dX11_told_83 : decode cX11_told 83 = .ok (.ireturn, 1) := by decide +kernel
theorem dX11_told_84 : decode cX11_told 84 = .ok (.aload_n 0, 1) := by decide +kernel
theorem dX11_told_85 : decode cX11_told 85 = .ok (.aload_n 0, 1) := by decide +kernel
theorem dX11_told_86 : decode cX11_told 86 = .ok (.getfield 26, 3) := by decide +kernel
theorem dX11_told_89 : decode cX11_told 89 = .ok (.getfield 142, 3) := by decide +kernel
theorem dX11_told_92 : decode cX11_told 92 = .ok (.invokevirtual 145, 3) := by decide +kernel
theorem dX11_told_95 : decode cX11_told 95 = .ok (.ireturn, 1) := by decide +kernel
theorem dX11_told_96 : decode cX11_told 96 = .ok (.aload_n 0, 1) := by decide +kernel
theorem dX11_told_97 : decode cX11_told 97 = .ok (.iconst 1, 1) := by decide +kernel
theorem dX11_told_98 : decode cX11_told 98 = .ok (.invokevirtual 110, 3) := by decide +kernel
theorem dX11_told_101 : decode cX11_told 101 = .ok (.ireturn, 1) := by decide +kernel
def ws_c_X11_told : List Cond := .code yX11_told cX11_told 2 (some .int) :: ([.fieldLink "NestedChecker" 26 "NestedChecker" "live" "LNestedChecker$Setting;", .fieldLink "NestedChecker" 154 "NestedChecker$Setting" "calls" "I", .code ⟨"NestedChecker", "answer", "(I)I"⟩ cX11_answer 2 (some .int), .fieldLink "NestedChecker" 72 "NestedChecker" "lastStatus" "I", .initialized "NestedChecker", .instanceMethod ⟨"NestedChecker", "answer", "(I)I"⟩, .selects "NestedChecker" ⟨"NestedChecker", "answer", "(I)I"⟩ ⟨"NestedChecker", "answer", "(I)I"⟩, .methodLink "NestedChecker" 145 ⟨"NestedChecker", "answer", "(I)I"⟩, .fieldLink "NestedChecker" 157 "NestedChecker$Setting" "paired" "I", .fieldLink "NestedChecker" 160 "NestedChecker$Setting" "letters" "I", .fieldLink "NestedChecker" 142 "NestedChecker$Setting" "automata" "I", .code ⟨"NestedChecker", "refuse", "(I)I"⟩ cX11_refuse 2 (some .int), .instanceMethod ⟨"NestedChecker", "refuse", "(I)I"⟩, .selects "NestedChecker" ⟨"NestedChecker", "refuse", "(I)I"⟩ ⟨"NestedChecker", "refuse", "(I)I"⟩, .methodLink "NestedChecker" 110 ⟨"NestedChecker", "refuse", "(I)I"⟩] ++ wsX110 ++ wsX50)
set_option maxRecDepth 20000 in
theorem g_c_X11_told_c_X11_answer : GoodIn ws_c_X11_told ws_c_X11_answer := goodIn_r _ [3, 4, 16, 17, 18, 19, 20, 21, 22, 23, 24, 25, 26, 27, 28, 29, 30] (by decide +kernel) (by decide +kernel)
set_option maxRecDepth 20000 in
theorem g_c_X11_told_c_X11_refuse : GoodIn ws_c_X11_told ws_c_X11_refuse := goodIn_r _ [12, 4, 16, 17, 18, 19, 20, 21, 22, 23, 24, 25, 26, 27, 28, 29, 30] (by decide +kernel) (by decide +kernel)
set_option maxHeartbeats 4000000 in
set_option maxRecDepth 100000 in
theorem c_X11_told (l : Launch) (D : va_G) (k : jK) (h0 : Nat) (a2 : Nat) (a4 : Nat) (a5 : Nat) (a6 : Nat) (a7 : Nat) (a8 : Nat) (a9 : Nat) (a10 : Nat) (t0 : Nat) (s0 : Nat) (s1 : Nat) (s2 : Nat) (s3 : Nat) (i1 : Int32) (sz : Nat)  : Met l yX11_told ws_c_X11_told ({ frames := 1, cells := 0, slots := 0, locals := 21 }) (jy_P [.ref h0, .int i1] D vwCl (jT k) jW [(h0, .inr (10, [.int 0, .long 0, .long 1, .ref t0, .ref a2, .ref s0, .ref a4, .int 0, .ref a5, .ref a6, .ref a7, .ref a8, .ref a9, .ref a10, .int 0])), (s0, .inr (4, [.int 0, .int 0, .int 0, .int 0, .ref s1, .ref s2, .ref s3]))] sz) (va_Qi (fun (r : Int32) (u : Unit) => (r = 0 ∧ (i1 = 0 ∨ i1 = 1 ∨ i1 = 2 ∨ i1 = 3)) ∨ (r = -1 ∧ ¬ (i1 = 0 ∨ i1 = 1 ∨ i1 = 2 ∨ i1 = 3))) (jy_B D vwCl (va_A [(h0, .inr (10, [.int 0, .long 0, .long 1, .ref t0, .ref a2, .ref s0, .ref a4, .int 0, .ref a5, .ref a6, .ref a7, .ref a8, .ref a9, .ref a10, .int 0])), (s0, .inr (4, [.int 0, .int 0, .int 0, .int 0, .ref s1, .ref s2, .ref s3]))] sz) (fun (u : Unit) => [])) (va_A [(h0, .inr (10, [.int 0, .long 0, .long 1, .ref t0, .ref a2, .ref s0, .ref a4, .int 0, .ref a5, .ref a6, .ref a7, .ref a8, .ref a9, .ref a10, .int 0])), (s0, .inr (4, [.int 0, .int 0, .int 0, .int 0, .ref s1, .ref s2, .ref s3]))] sz)) 0 0 (va_A [(h0, .inr (10, [.int 0, .long 0, .long 1, .ref t0, .ref a2, .ref s0, .ref a4, .int 0, .ref a5, .ref a6, .ref a7, .ref a8, .ref a9, .ref a10, .int 0])), (s0, .inr (4, [.int 0, .int 0, .int 0, .int 0, .ref s1, .ref s2, .ref s3]))] sz) := by
  refine jy_met (cc := cX11_told) (maxL := 2) (ret := (some .int)) (lv := [(0, .ref h0), (1, .int i1)]) (by decide) rfl (Nat.le_of_ble_eq_true rfl) rfl ?_
  intro p e s m below meth c F hr hlk hnm hN hA
  have hiX11 : ∀ w ∈ u_ws RX11 TX11 15, w ∈ ws_c_X11_told := fun w hw => List.mem_cons_of_mem _ (List.mem_append_left _ (List.mem_append_right _ hw))
  have hiX5 : ∀ w ∈ u_ws RX5 TX5 7, w ∈ ws_c_X11_told := fun w hw => List.mem_cons_of_mem _ (List.mem_append_right _ hw)
  refine jy_iload_n (pc' := 1) F 1 dX11_told_0 rfl rfl rfl ?_
  by_cases h_1 : i1 = 0
  · subst h_1
    refine jy_tableIn (tgt := 32) F dX11_told_1 (by decide) (by decide) rfl (by decide) ?_
    refine jy_aload_n (pc' := 33) F 0 dX11_told_32 rfl rfl rfl ?_
    refine jy_aload_n (pc' := 34) F 0 dX11_told_33 rfl rfl rfl ?_
    refine jy_get (pc' := 37) (C := RX11) (T := TX11) (N := 15) (ci := 10) (v := .ref s0) F hiX11 0 rfl rfl 5 (by decide) dX11_told_34 (List.mem_of_getElem? (i := 1) rfl) rfl rfl ?_
    refine jy_get (pc' := 40) (C := RX5) (T := TX5) (N := 7) (ci := 4) (v := .int 0) F hiX5 1 rfl rfl 0 (by decide) dX11_told_37 (List.mem_of_getElem? (i := 2) rfl) rfl rfl ?_
    refine jy_calli (pc' := 43) (cells' := 0) (slots' := 0) (wr := [(s0, .inr (4, [.int 0, .int 0, .int 0, .int 0, .ref s1, .ref s2, .ref s3]))]) hA [0] [1] rfl rfl (by decide) (by decide) (jy_runV (As := [.int 0]) (b := h0) (q0 := 0) (ci := 10) (C := RX11) (T := TX11) (N := 15) (st := []) F hN (fun sz => c_X11_answer l D k h0 0 (.long 0) (.long 1) (.ref t0) (.ref a2) (.ref s0) (.ref a4) (.int 0) (.ref a5) (.ref a6) (.ref a7) (.ref a8) (.ref a9) (.ref a10) (.int 0) 0 sz ) (jy_cV F g_c_X11_told_c_X11_answer rfl hdX11_answer (List.mem_of_getElem? (i := 5) rfl) (List.mem_of_getElem? (i := 8) rfl) (List.mem_of_getElem? (i := 6) rfl) (List.mem_of_getElem? (i := 7) rfl) rfl rfl ⟨by decide, by decide⟩) rfl rfl [0] rfl (by decide) rfl rfl (Nat.le_of_ble_eq_true rfl) dX11_told_40 ⟨by decide, by decide⟩) rfl rfl rfl (fun r_4 u_2 e_3 => ?_)
    subst e_3
    refine jy_widen (cells' := 0) (slots' := 0) (by decide) (by decide) ?_
    exact jy_iret (v := 0) F hr hlk () (Or.inl ⟨rfl, Or.inl rfl⟩) [] rfl (by decide) dX11_told_43
  by_cases h_5 : i1 = 1
  · subst h_5
    refine jy_tableIn (tgt := 44) F dX11_told_1 (by decide) (by decide) rfl (by decide) ?_
    refine jy_aload_n (pc' := 45) F 0 dX11_told_44 rfl rfl rfl ?_
    refine jy_aload_n (pc' := 46) F 0 dX11_told_45 rfl rfl rfl ?_
    refine jy_get (pc' := 49) (C := RX11) (T := TX11) (N := 15) (ci := 10) (v := .ref s0) F hiX11 0 rfl rfl 5 (by decide) dX11_told_46 (List.mem_of_getElem? (i := 1) rfl) rfl rfl ?_
    refine jy_get (pc' := 52) (C := RX5) (T := TX5) (N := 7) (ci := 4) (v := .int 0) F hiX5 1 rfl rfl 1 (by decide) dX11_told_49 (List.mem_of_getElem? (i := 9) rfl) rfl rfl ?_
    refine jy_aload_n (pc' := 53) F 0 dX11_told_52 rfl rfl rfl ?_
    refine jy_get (pc' := 56) (C := RX11) (T := TX11) (N := 15) (ci := 10) (v := .ref s0) F hiX11 0 rfl rfl 5 (by decide) dX11_told_53 (List.mem_of_getElem? (i := 1) rfl) rfl rfl ?_
    refine jy_get (pc' := 59) (C := RX5) (T := TX5) (N := 7) (ci := 4) (v := .int 0) F hiX5 1 rfl rfl 0 (by decide) dX11_told_56 (List.mem_of_getElem? (i := 2) rfl) rfl rfl ?_
    refine jy_isub (pc' := 60) (v := 0) F dX11_told_59 (by decide) rfl ?_
    refine jy_calli (pc' := 63) (cells' := 0) (slots' := 0) (wr := [(s0, .inr (4, [.int 0, .int 0, .int 0, .int 0, .ref s1, .ref s2, .ref s3]))]) hA [0] [1] rfl rfl (by decide) (by decide) (jy_runV (As := [.int 0]) (b := h0) (q0 := 0) (ci := 10) (C := RX11) (T := TX11) (N := 15) (st := []) F hN (fun sz => c_X11_answer l D k h0 0 (.long 0) (.long 1) (.ref t0) (.ref a2) (.ref s0) (.ref a4) (.int 0) (.ref a5) (.ref a6) (.ref a7) (.ref a8) (.ref a9) (.ref a10) (.int 0) 0 sz ) (jy_cV F g_c_X11_told_c_X11_answer rfl hdX11_answer (List.mem_of_getElem? (i := 5) rfl) (List.mem_of_getElem? (i := 8) rfl) (List.mem_of_getElem? (i := 6) rfl) (List.mem_of_getElem? (i := 7) rfl) rfl rfl ⟨by decide, by decide⟩) rfl rfl [0] rfl (by decide) rfl rfl (Nat.le_of_ble_eq_true rfl) dX11_told_60 ⟨by decide, by decide⟩) rfl rfl rfl (fun r_8 u_6 e_7 => ?_)
    subst e_7
    refine jy_widen (cells' := 0) (slots' := 0) (by decide) (by decide) ?_
    exact jy_iret (v := 0) F hr hlk () (Or.inl ⟨rfl, Or.inr (Or.inl rfl)⟩) [] rfl (by decide) dX11_told_63
  by_cases h_9 : i1 = 2
  · subst h_9
    refine jy_tableIn (tgt := 64) F dX11_told_1 (by decide) (by decide) rfl (by decide) ?_
    refine jy_aload_n (pc' := 65) F 0 dX11_told_64 rfl rfl rfl ?_
    refine jy_aload_n (pc' := 66) F 0 dX11_told_65 rfl rfl rfl ?_
    refine jy_get (pc' := 69) (C := RX11) (T := TX11) (N := 15) (ci := 10) (v := .ref s0) F hiX11 0 rfl rfl 5 (by decide) dX11_told_66 (List.mem_of_getElem? (i := 1) rfl) rfl rfl ?_
    refine jy_get (pc' := 72) (C := RX5) (T := TX5) (N := 7) (ci := 4) (v := .int 0) F hiX5 1 rfl rfl 2 (by decide) dX11_told_69 (List.mem_of_getElem? (i := 10) rfl) rfl rfl ?_
    refine jy_aload_n (pc' := 73) F 0 dX11_told_72 rfl rfl rfl ?_
    refine jy_get (pc' := 76) (C := RX11) (T := TX11) (N := 15) (ci := 10) (v := .ref s0) F hiX11 0 rfl rfl 5 (by decide) dX11_told_73 (List.mem_of_getElem? (i := 1) rfl) rfl rfl ?_
    refine jy_get (pc' := 79) (C := RX5) (T := TX5) (N := 7) (ci := 4) (v := .int 0) F hiX5 1 rfl rfl 1 (by decide) dX11_told_76 (List.mem_of_getElem? (i := 9) rfl) rfl rfl ?_
    refine jy_isub (pc' := 80) (v := 0) F dX11_told_79 (by decide) rfl ?_
    refine jy_calli (pc' := 83) (cells' := 0) (slots' := 0) (wr := [(s0, .inr (4, [.int 0, .int 0, .int 0, .int 0, .ref s1, .ref s2, .ref s3]))]) hA [0] [1] rfl rfl (by decide) (by decide) (jy_runV (As := [.int 0]) (b := h0) (q0 := 0) (ci := 10) (C := RX11) (T := TX11) (N := 15) (st := []) F hN (fun sz => c_X11_answer l D k h0 0 (.long 0) (.long 1) (.ref t0) (.ref a2) (.ref s0) (.ref a4) (.int 0) (.ref a5) (.ref a6) (.ref a7) (.ref a8) (.ref a9) (.ref a10) (.int 0) 0 sz ) (jy_cV F g_c_X11_told_c_X11_answer rfl hdX11_answer (List.mem_of_getElem? (i := 5) rfl) (List.mem_of_getElem? (i := 8) rfl) (List.mem_of_getElem? (i := 6) rfl) (List.mem_of_getElem? (i := 7) rfl) rfl rfl ⟨by decide, by decide⟩) rfl rfl [0] rfl (by decide) rfl rfl (Nat.le_of_ble_eq_true rfl) dX11_told_80 ⟨by decide, by decide⟩) rfl rfl rfl (fun r_12 u_10 e_11 => ?_)
    subst e_11
    refine jy_widen (cells' := 0) (slots' := 0) (by decide) (by decide) ?_
    exact jy_iret (v := 0) F hr hlk () (Or.inl ⟨rfl, Or.inr (Or.inr (Or.inl rfl))⟩) [] rfl (by decide) dX11_told_83
  by_cases h_13 : i1 = 3
  · subst h_13
    refine jy_tableIn (tgt := 84) F dX11_told_1 (by decide) (by decide) rfl (by decide) ?_
    refine jy_aload_n (pc' := 85) F 0 dX11_told_84 rfl rfl rfl ?_
    refine jy_aload_n (pc' := 86) F 0 dX11_told_85 rfl rfl rfl ?_
    refine jy_get (pc' := 89) (C := RX11) (T := TX11) (N := 15) (ci := 10) (v := .ref s0) F hiX11 0 rfl rfl 5 (by decide) dX11_told_86 (List.mem_of_getElem? (i := 1) rfl) rfl rfl ?_
    refine jy_get (pc' := 92) (C := RX5) (T := TX5) (N := 7) (ci := 4) (v := .int 0) F hiX5 1 rfl rfl 3 (by decide) dX11_told_89 (List.mem_of_getElem? (i := 11) rfl) rfl rfl ?_
    refine jy_calli (pc' := 95) (cells' := 0) (slots' := 0) (wr := [(s0, .inr (4, [.int 0, .int 0, .int 0, .int 0, .ref s1, .ref s2, .ref s3]))]) hA [0] [1] rfl rfl (by decide) (by decide) (jy_runV (As := [.int 0]) (b := h0) (q0 := 0) (ci := 10) (C := RX11) (T := TX11) (N := 15) (st := []) F hN (fun sz => c_X11_answer l D k h0 0 (.long 0) (.long 1) (.ref t0) (.ref a2) (.ref s0) (.ref a4) (.int 0) (.ref a5) (.ref a6) (.ref a7) (.ref a8) (.ref a9) (.ref a10) (.int 0) 0 sz ) (jy_cV F g_c_X11_told_c_X11_answer rfl hdX11_answer (List.mem_of_getElem? (i := 5) rfl) (List.mem_of_getElem? (i := 8) rfl) (List.mem_of_getElem? (i := 6) rfl) (List.mem_of_getElem? (i := 7) rfl) rfl rfl ⟨by decide, by decide⟩) rfl rfl [0] rfl (by decide) rfl rfl (Nat.le_of_ble_eq_true rfl) dX11_told_92 ⟨by decide, by decide⟩) rfl rfl rfl (fun r_16 u_14 e_15 => ?_)
    subst e_15
    refine jy_widen (cells' := 0) (slots' := 0) (by decide) (by decide) ?_
    exact jy_iret (v := 0) F hr hlk () (Or.inl ⟨rfl, Or.inr (Or.inr (Or.inr rfl))⟩) [] rfl (by decide) dX11_told_95
  refine jy_tableOut (tgt := 96) F dX11_told_1 (jy_out 3 (by decide) (fun k hk => by match k, hk with | 0, _ => exact h_1 | 1, _ => exact h_5 | 2, _ => exact h_9 | 3, _ => exact h_13 | n + 4, h => exact absurd h (by omega))) (by decide) ?_
  refine jy_aload_n (pc' := 97) F 0 dX11_told_96 rfl rfl rfl ?_
  refine jy_iconst (pc' := 98) (v := 1) F dX11_told_97 (by decide) rfl ?_
  refine jy_calli (pc' := 101) (cells' := 0) (slots' := 0) (wr := [(s0, .inr (4, [.int 0, .int 0, .int 0, .int 0, .ref s1, .ref s2, .ref s3]))]) hA [0] [1] rfl rfl (by decide) (by decide) (jy_runV (As := [.int 1]) (b := h0) (q0 := 0) (ci := 10) (C := RX11) (T := TX11) (N := 15) (st := []) F hN (fun sz => c_X11_refuse l D k h0 0 (.long 0) (.long 1) (.ref t0) (.ref a2) (.ref s0) (.ref a4) (.int 0) (.ref a5) (.ref a6) (.ref a7) (.ref a8) (.ref a9) (.ref a10) (.int 0) 1 sz ) (jy_cV F g_c_X11_told_c_X11_refuse rfl hdX11_refuse (List.mem_of_getElem? (i := 5) rfl) (List.mem_of_getElem? (i := 15) rfl) (List.mem_of_getElem? (i := 13) rfl) (List.mem_of_getElem? (i := 14) rfl) rfl rfl ⟨by decide, by decide⟩) rfl rfl [0] rfl (by decide) rfl rfl (Nat.le_of_ble_eq_true rfl) dX11_told_98 ⟨by decide, by decide⟩) rfl rfl rfl (fun r_19 u_17 e_18 => ?_)
  subst e_18
  refine jy_widen (cells' := 0) (slots' := 0) (by decide) (by decide) ?_
  exact jy_iret (v := (-1)) F hr hlk () (Or.inr ⟨rfl, fun h => h.elim h_1 (fun h => h.elim h_5 (fun h => h.elim h_9 h_13))⟩) [] rfl (by decide) dX11_told_101
