abbrev cX9_pourRefusal : ByteArray := prog_11_method_6_code
def yX9_pourRefusal : MethodName := ⟨RX9, "pourRefusal", "(IIIII)I"⟩
theorem hdX9_pourRefusal : yX9_pourRefusal.cls ≠ "java/lang/invoke/MethodHandle" ∧ yX9_pourRefusal.cls ≠ "java/lang/invoke/VarHandle" ∧ (parseMethodDescriptor yX9_pourRefusal.desc).map (fun d => d.parameters.length) = some 5 := by decide +kernel
theorem dX9_pourRefusal_0 : decode cX9_pourRefusal 0 = .ok (.aload_n 0, 1) := by decide +kernel
theorem dX9_pourRefusal_1 : decode cX9_pourRefusal 1 = .ok (.iload_n 1, 1) := by decide +kernel
theorem dX9_pourRefusal_2 : decode cX9_pourRefusal 2 = .ok (.invokevirtual 26, 3) := by decide +kernel
theorem dX9_pourRefusal_5 : decode cX9_pourRefusal 5 = .ok (.ifCond .eq 25, 3) := by decide +kernel
theorem dX9_pourRefusal_8 : decode cX9_pourRefusal 8 = .ok (.aload_n 0, 1) := by decide +kernel
theorem dX9_pourRefusal_9 : decode cX9_pourRefusal 9 = .ok (.iload_n 3, 1) := by decide +kernel
theorem dX9_pourRefusal_10 : decode cX9_pourRefusal 10 = .ok (.invokevirtual 26, 3) := by decide +kernel
theorem dX9_pourRefusal_13 : decode cX9_pourRefusal 13 = .ok (.ifCond .eq 17, 3) := by decide +kernel
theorem dX9_pourRefusal_16 : decode cX9_pourRefusal 16 = .ok (.iload_n 2, 1) := by decide +kernel
theorem dX9_pourRefusal_17 : decode cX9_pourRefusal 17 = .ok (.ifCond .lt 13, 3) := by decide +kernel
theorem dX9_pourRefusal_20 : decode cX9_pourRefusal 20 = .ok (.iload 4, 2) := by decide +kernel
theorem dX9_pourRefusal_22 : decode cX9_pourRefusal 22 = .ok (.ifCond .lt 8, 3) := by decide +kernel
theorem dX9_pourRefusal_25 : decode cX9_pourRefusal 25 = .ok (.iload 5, 2) := by decide +kernel
theorem dX9_pourRefusal_27 : decode cX9_pourRefusal 27 = .ok (.ifCond .ge 5, 3) := by decide +kernel
theorem dX9_pourRefusal_30 : decode cX9_pourRefusal 30 = .ok (.iconst 1, 1) := by decide +kernel
theorem dX9_pourRefusal_31 : decode cX9_pourRefusal 31 = .ok (.ireturn, 1) := by decide +kernel
theorem dX9_pourRefusal_32 : decode cX9_pourRefusal 32 = .ok (.aload_n 0, 1) := by decide +kernel
theorem dX9_pourRefusal_33 : decode cX9_pourRefusal 33 = .ok (.iload_n 1, 1) := by decide +kernel
theorem dX9_pourRefusal_34 : decode cX9_pourRefusal 34 = .ok (.invokevirtual 30, 3) := by decide +kernel
theorem dX9_pourRefusal_37 : decode cX9_pourRefusal 37 = .ok (.ifCond .ne 11, 3) := by decide +kernel
theorem dX9_pourRefusal_48 : decode cX9_pourRefusal 48 = .ok (.iconst 2, 1) := by decide +kernel
theorem dX9_pourRefusal_49 : decode cX9_pourRefusal 49 = .ok (.ireturn, 1) := by decide +kernel
def ws_c_X9_pourRefusal : List Cond := .code yX9_pourRefusal cX9_pourRefusal 7 (some .int) :: ([.code ⟨"NestedChecker$Trays", "has", "(I)Z"⟩ cX9_has 2 (some .boolean), .code ⟨"NestedChecker", "within", "(III)Z"⟩ cX11_within 3 (some .boolean), .initialized "NestedChecker", .static ⟨"NestedChecker", "within", "(III)Z"⟩, .initialized "NestedChecker$Trays", .instanceMethod ⟨"NestedChecker$Trays", "has", "(I)Z"⟩, .selects "NestedChecker$Trays" ⟨"NestedChecker$Trays", "has", "(I)Z"⟩ ⟨"NestedChecker$Trays", "has", "(I)Z"⟩, .methodLink "NestedChecker$Trays" 26 ⟨"NestedChecker$Trays", "has", "(I)Z"⟩, .code ⟨"NestedChecker$Trays", "isMissing", "(I)Z"⟩ cX9_isMissing 2 (some .boolean), .fieldLink "NestedChecker$Trays" 19 "NestedChecker$Trays" "places" "[I", .instanceMethod ⟨"NestedChecker$Trays", "isMissing", "(I)Z"⟩, .selects "NestedChecker$Trays" ⟨"NestedChecker$Trays", "isMissing", "(I)Z"⟩ ⟨"NestedChecker$Trays", "isMissing", "(I)Z"⟩, .methodLink "NestedChecker$Trays" 30 ⟨"NestedChecker$Trays", "isMissing", "(I)Z"⟩] ++ wsX90)
set_option maxRecDepth 20000 in
theorem g_c_X9_pourRefusal_c_X9_has : GoodIn ws_c_X9_pourRefusal ws_c_X9_has := goodIn_r _ [1, 2, 3, 4] (by decide +kernel) (by decide +kernel)
set_option maxRecDepth 20000 in
theorem g_c_X9_pourRefusal_c_X9_isMissing : GoodIn ws_c_X9_pourRefusal ws_c_X9_isMissing := goodIn_r _ [9, 10, 14, 15, 16] (by decide +kernel) (by decide +kernel)
set_option maxHeartbeats 4000000 in
set_option maxRecDepth 100000 in
theorem c_X9_pourRefusal (l : Launch) (D : va_G) (k : jK) (t0 : Nat) (t1 : Nat) (t2 : Nat) (t3 : Nat) (fp : Nat → Int32) (y1 : Int32) (y2 : Int32) (y3 : Int32) (y4 : Int32) (y5 : Int32) (sz : Nat) (hp : ∀ j, j < 4 → fp j = -1) : Met l yX9_pourRefusal ws_c_X9_pourRefusal ({ frames := 2, cells := 0, slots := 0, locals := 43 }) (jy_P [.ref t0, .int y1, .int y2, .int y3, .int y4, .int y5] D vwCl (jT k) jW [(t0, .inr (8, [.ref t1, .ref t2, .ref t3])), (t3, .inl (k.2.1, 4, .inl fp))] sz) (vp_Si (fun (r : Int32) => ¬ r = 0)) 0 0 (fun _ => False) := by
  refine jy_metS (cc := cX9_pourRefusal) (maxL := 7) (ret := (some .int)) (lv := [(0, .ref t0), (1, .int y1), (2, .int y2), (3, .int y3), (4, .int y4), (5, .int y5)]) (by decide) rfl (Nat.le_of_ble_eq_true rfl) rfl ?_
  intro p e s m below meth c F hr hlk hN
  have hiX9 : ∀ w ∈ u_ws RX9 TX9 3, w ∈ ws_c_X9_pourRefusal := fun w hw => List.mem_cons_of_mem _ (List.mem_append_right _ hw)
  refine jy_aload_n (pc' := 1) F 0 dX9_pourRefusal_0 rfl rfl rfl ?_
  refine jy_iload_n (pc' := 2) F 1 dX9_pourRefusal_1 rfl rfl rfl ?_
  refine jy_callSi (pc' := 5) (jy_runV (As := [.int y1]) (b := t0) (q0 := 0) (ci := 8) (C := RX9) (T := TX9) (N := 3) (st := []) F hN (fun sz => c_X9_has l D k t0 t1 t2 t3 y1 sz ) (jy_cV F g_c_X9_pourRefusal_c_X9_has rfl hdX9_has (List.mem_of_getElem? (i := 5) rfl) (List.mem_of_getElem? (i := 8) rfl) (List.mem_of_getElem? (i := 6) rfl) (List.mem_of_getElem? (i := 7) rfl) rfl rfl ⟨by decide, by decide⟩) rfl rfl [0] rfl (by decide) rfl rfl (Nat.le_of_ble_eq_true rfl) dX9_pourRefusal_2 ⟨by decide, by decide⟩) rfl (fun r_1 e_2 => ?_)
  rcases e_2 with ⟨z_4, h_3⟩ | ⟨z_5, h_3⟩
  · subst z_4
    refine jy_if_eq (pc' := 8) (tgt := 30) F dX9_pourRefusal_5 (by decide) rfl (fun h => absurd h (by decide)) (fun _ => ?_)
    refine jy_aload_n (pc' := 9) F 0 dX9_pourRefusal_8 rfl rfl rfl ?_
    refine jy_iload_n (pc' := 10) F 3 dX9_pourRefusal_9 rfl rfl rfl ?_
    refine jy_callSi (pc' := 13) (jy_runV (As := [.int y3]) (b := t0) (q0 := 0) (ci := 8) (C := RX9) (T := TX9) (N := 3) (st := []) F hN (fun sz => c_X9_has l D k t0 t1 t2 t3 y3 sz ) (jy_cV F g_c_X9_pourRefusal_c_X9_has rfl hdX9_has (List.mem_of_getElem? (i := 5) rfl) (List.mem_of_getElem? (i := 8) rfl) (List.mem_of_getElem? (i := 6) rfl) (List.mem_of_getElem? (i := 7) rfl) rfl rfl ⟨by decide, by decide⟩) rfl rfl [0] rfl (by decide) rfl rfl (Nat.le_of_ble_eq_true rfl) dX9_pourRefusal_10 ⟨by decide, by decide⟩) rfl (fun r_7 e_8 => ?_)
    rcases e_8 with ⟨z_10, h_9⟩ | ⟨z_11, h_9⟩
    · subst z_10
      refine jy_if_eq (pc' := 16) (tgt := 30) F dX9_pourRefusal_13 (by decide) rfl (fun h => absurd h (by decide)) (fun _ => ?_)
      refine jy_iload_n (pc' := 17) F 2 dX9_pourRefusal_16 rfl rfl rfl ?_
      refine jy_if_lt (pc' := 20) (tgt := 30) F dX9_pourRefusal_17 (by decide) rfl (fun h_13 => ?_) (fun h_13 => ?_)
      · refine jy_iconst (pc' := 31) (v := 1) F dX9_pourRefusal_30 (by decide) rfl ?_
        exact jy_iretS (v := 1) F hr hlk (by decide) dX9_pourRefusal_31
      · refine jy_iload (pc' := 22) F 4 dX9_pourRefusal_20 rfl rfl ?_
        refine jy_if_lt (pc' := 25) (tgt := 30) F dX9_pourRefusal_22 (by decide) rfl (fun h_14 => ?_) (fun h_14 => ?_)
        · refine jy_iconst (pc' := 31) (v := 1) F dX9_pourRefusal_30 (by decide) rfl ?_
          exact jy_iretS (v := 1) F hr hlk (by decide) dX9_pourRefusal_31
        · refine jy_iload (pc' := 27) F 5 dX9_pourRefusal_25 rfl rfl ?_
          refine jy_if_ge (pc' := 30) (tgt := 32) F dX9_pourRefusal_27 (by decide) rfl (fun h_15 => ?_) (fun h_15 => ?_)
          · obtain ⟨tt, htt, rfl⟩ := nI_of2 (M := 3) (n := 3) rfl h_3.1 (Int32.not_lt.mp h_3.2)
            obtain ⟨tu, htu, rfl⟩ := nI_of2 (M := 3) (n := 3) rfl h_9.1 (Int32.not_lt.mp h_9.2)
            refine jy_aload_n (pc' := 33) F 0 dX9_pourRefusal_32 rfl rfl rfl ?_
            refine jy_iload_n (pc' := 34) F 1 dX9_pourRefusal_33 rfl rfl rfl ?_
            refine jy_callSi (pc' := 37) (jy_runV (As := [.int (nI tt)]) (b := t0) (q0 := 0) (ci := 8) (C := RX9) (T := TX9) (N := 3) (st := []) F hN (fun sz => c_X9_isMissing l D k t0 t1 t2 t3 fp tt sz (hp) (by omega)) (jy_cV F g_c_X9_pourRefusal_c_X9_isMissing rfl hdX9_isMissing (List.mem_of_getElem? (i := 5) rfl) (List.mem_of_getElem? (i := 13) rfl) (List.mem_of_getElem? (i := 11) rfl) (List.mem_of_getElem? (i := 12) rfl) rfl rfl ⟨by decide, by decide⟩) rfl rfl [0, 1] rfl (by decide) rfl rfl (Nat.le_of_ble_eq_true rfl) dX9_pourRefusal_34 ⟨by decide, by decide⟩) rfl (fun r_16 e_17 => ?_)
            subst e_17
            refine jy_if_ne (pc' := 40) (tgt := 48) F dX9_pourRefusal_37 (by decide) rfl (fun _ => ?_) (fun h => absurd h (by decide))
            refine jy_iconst (pc' := 49) (v := 2) F dX9_pourRefusal_48 (by decide) rfl ?_
            exact jy_iretS (v := 2) F hr hlk (by decide) dX9_pourRefusal_49
          · refine jy_iconst (pc' := 31) (v := 1) F dX9_pourRefusal_30 (by decide) rfl ?_
            exact jy_iretS (v := 1) F hr hlk (by decide) dX9_pourRefusal_31
    · subst z_11
      refine jy_if_eq (pc' := 16) (tgt := 30) F dX9_pourRefusal_13 (by decide) rfl (fun _ => ?_) (fun h => absurd h (by decide))
      refine jy_iconst (pc' := 31) (v := 1) F dX9_pourRefusal_30 (by decide) rfl ?_
      exact jy_iretS (v := 1) F hr hlk (by decide) dX9_pourRefusal_31
  · subst z_5
    refine jy_if_eq (pc' := 8) (tgt := 30) F dX9_pourRefusal_5 (by decide) rfl (fun _ => ?_) (fun h => absurd h (by decide))
    refine jy_iconst (pc' := 31) (v := 1) F dX9_pourRefusal_30 (by decide) rfl ?_
    exact jy_iretS (v := 1) F hr hlk (by decide) dX9_pourRefusal_31
abbrev cX11_status : ByteArray := prog_1_method_2_code
def yX11_status : MethodName := ⟨RX11, "status", "()I"⟩
theorem hdX11_status : yX11_status.cls ≠ "java/lang/invoke/MethodHandle" ∧ yX11_status.cls ≠ "java/lang/invoke/VarHandle" ∧ (parseMethodDescriptor yX11_status.desc).map (fun d => d.parameters.length) = some 0 := by decide +kernel
theorem dX11_status_0 : decode cX11_status 0 = .ok (.aload_n 0, 1) := by decide +kernel
theorem dX11_status_1 : decode cX11_status 1 = .ok (.getfield 72, 3) := by decide +kernel
theorem dX11_status_4 : decode cX11_status 4 = .ok (.ireturn, 1) := by decide +kernel
def ws_c_X11_status : List Cond := .code yX11_status cX11_status 1 (some .int) :: ([.fieldLink "NestedChecker" 72 "NestedChecker" "lastStatus" "I"] ++ wsX110)
set_option maxHeartbeats 4000000 in
set_option maxRecDepth 100000 in
theorem c_X11_status (l : Launch) (D : va_G) (k : jK) (h0 : Nat) (a2 : Nat) (a4 : Nat) (a5 : Nat) (a6 : Nat) (a7 : Nat) (a8 : Nat) (a9 : Nat) (a10 : Nat) (t0 : Nat) (s0 : Nat) (sz : Nat)  : Met l yX11_status ws_c_X11_status ({ frames := 0, cells := 0, slots := 0, locals := 0 }) (jy_P [.ref h0] D vwCl (jT k) jW [(h0, .inr (10, [.int 0, .long 0, .long 1, .ref t0, .ref a2, .ref s0, .ref a4, .int 0, .ref a5, .ref a6, .ref a7, .ref a8, .ref a9, .ref a10, .int 0]))] sz) (va_Qi (fun (r : Int32) (u : Unit) => r = 0) (jy_B D vwCl (va_A [(h0, .inr (10, [.int 0, .long 0, .long 1, .ref t0, .ref a2, .ref s0, .ref a4, .int 0, .ref a5, .ref a6, .ref a7, .ref a8, .ref a9, .ref a10, .int 0]))] sz) (fun (u : Unit) => [])) (va_A [(h0, .inr (10, [.int 0, .long 0, .long 1, .ref t0, .ref a2, .ref s0, .ref a4, .int 0, .ref a5, .ref a6, .ref a7, .ref a8, .ref a9, .ref a10, .int 0]))] sz)) 0 0 (va_A [(h0, .inr (10, [.int 0, .long 0, .long 1, .ref t0, .ref a2, .ref s0, .ref a4, .int 0, .ref a5, .ref a6, .ref a7, .ref a8, .ref a9, .ref a10, .int 0]))] sz) := by
  refine jy_met (cc := cX11_status) (maxL := 1) (ret := (some .int)) (lv := [(0, .ref h0)]) (by decide) rfl (Nat.le_of_ble_eq_true rfl) rfl ?_
  intro p e s m below meth c F hr hlk hnm hN hA
  have hiX11 : ∀ w ∈ u_ws RX11 TX11 15, w ∈ ws_c_X11_status := fun w hw => List.mem_cons_of_mem _ (List.mem_append_right _ hw)
  refine jy_aload_n (pc' := 1) F 0 dX11_status_0 rfl rfl rfl ?_
  refine jy_get (pc' := 4) (C := RX11) (T := TX11) (N := 15) (ci := 10) (v := .int 0) F hiX11 0 rfl rfl 0 (by decide) dX11_status_1 (List.mem_of_getElem? (i := 1) rfl) rfl rfl ?_
  refine jy_widen (cells' := 0) (slots' := 0) (by decide) (by decide) ?_
  exact jy_iret (v := 0) F hr hlk () (rfl) [] rfl (by decide) dX11_status_4
abbrev cX11_top : ByteArray := prog_1_method_3_code
def yX11_top : MethodName := ⟨RX11, "top", "()J"⟩
theorem hdX11_top : yX11_top.cls ≠ "java/lang/invoke/MethodHandle" ∧ yX11_top.cls ≠ "java/lang/invoke/VarHandle" ∧ (parseMethodDescriptor yX11_top.desc).map (fun d => d.parameters.length) = some 0 := by decide +kernel
theorem dX11_top_0 : decode cX11_top 0 = .ok (.aload_n 0, 1) := by decide +kernel
theorem dX11_top_1 : decode cX11_top 1 = .ok (.getfield 76, 3) := by decide +kernel
theorem dX11_top_4 : decode cX11_top 4 = .ok (.lreturn, 1) := by decide +kernel
def ws_c_X11_top : List Cond := .code yX11_top cX11_top 1 (some .long) :: ([.fieldLink "NestedChecker" 76 "NestedChecker" "fractionTop" "J"] ++ wsX110)
set_option maxHeartbeats 4000000 in
set_option maxRecDepth 100000 in
theorem c_X11_top (l : Launch) (D : va_G) (k : jK) (h0 : Nat) (a2 : Nat) (a4 : Nat) (a5 : Nat) (a6 : Nat) (a7 : Nat) (a8 : Nat) (a9 : Nat) (a10 : Nat) (t0 : Nat) (s0 : Nat) (sz : Nat)  : Met l yX11_top ws_c_X11_top ({ frames := 0, cells := 0, slots := 0, locals := 0 }) (jy_P [.ref h0] D vwCl (jT k) jW [(h0, .inr (10, [.int 0, .long 0, .long 1, .ref t0, .ref a2, .ref s0, .ref a4, .int 0, .ref a5, .ref a6, .ref a7, .ref a8, .ref a9, .ref a10, .int 0]))] sz) (va_Ql (fun (r : Int64) (u : Unit) => r = 0) (jy_B D vwCl (va_A [(h0, .inr (10, [.int 0, .long 0, .long 1, .ref t0, .ref a2, .ref s0, .ref a4, .int 0, .ref a5, .ref a6, .ref a7, .ref a8, .ref a9, .ref a10, .int 0]))] sz) (fun (u : Unit) => [])) (va_A [(h0, .inr (10, [.int 0, .long 0, .long 1, .ref t0, .ref a2, .ref s0, .ref a4, .int 0, .ref a5, .ref a6, .ref a7, .ref a8, .ref a9, .ref a10, .int 0]))] sz)) 0 0 (va_A [(h0, .inr (10, [.int 0, .long 0, .long 1, .ref t0, .ref a2, .ref s0, .ref a4, .int 0, .ref a5, .ref a6, .ref a7, .ref a8, .ref a9, .ref a10, .int 0]))] sz) := by
  refine jy_met (cc := cX11_top) (maxL := 1) (ret := (some .long)) (lv := [(0, .ref h0)]) (by decide) rfl (Nat.le_of_ble_eq_true rfl) rfl ?_
  intro p e s m below meth c F hr hlk hnm hN hA
  have hiX11 : ∀ w ∈ u_ws RX11 TX11 15, w ∈ ws_c_X11_top := fun w hw => List.mem_cons_of_mem _ (List.mem_append_right _ hw)
  refine jy_aload_n (pc' := 1) F 0 dX11_top_0 rfl rfl rfl ?_
  refine jy_get (pc' := 4) (C := RX11) (T := TX11) (N := 15) (ci := 10) (v := .long 0) F hiX11 0 rfl rfl 1 (by decide) dX11_top_1 (List.mem_of_getElem? (i := 1) rfl) rfl rfl ?_
  refine jy_widen (cells' := 0) (slots' := 0) (by decide) (by decide) ?_
  exact jy_lret (v := 0) F hr hlk () (rfl) [] rfl (by decide) dX11_top_4
abbrev cX11_bottom : ByteArray := prog_1_method_4_code
def yX11_bottom : MethodName := ⟨RX11, "bottom", "()J"⟩
theorem hdX11_bottom : yX11_bottom.cls ≠ "java/lang/invoke/MethodHandle" ∧ yX11_bottom.cls ≠ "java/lang/invoke/VarHandle" ∧ (parseMethodDescriptor yX11_bottom.desc).map (fun d => d.parameters.length) = some 0 := by decide +kernel
theorem dX11_bottom_0 : decode cX11_bottom 0 = .ok (.aload_n 0, 1) := by decide +kernel
theorem dX11_bottom_1 : decode cX11_bottom 1 = .ok (.getfield 80, 3) := by decide +kernel
theorem dX11_bottom_4 : decode cX11_bottom 4 = .ok (.lreturn, 1) := by decide +kernel
def ws_c_X11_bottom : List Cond := .code yX11_bottom cX11_bottom 1 (some .long) :: ([.fieldLink "NestedChecker" 80 "NestedChecker" "fractionBottom" "J"] ++ wsX110)
set_option maxHeartbeats 4000000 in
set_option maxRecDepth 100000 in
theorem c_X11_bottom (l : Launch) (D : va_G) (k : jK) (h0 : Nat) (a2 : Nat) (a4 : Nat) (a5 : Nat) (a6 : Nat) (a7 : Nat) (a8 : Nat) (a9 : Nat) (a10 : Nat) (t0 : Nat) (s0 : Nat) (sz : Nat)  : Met l yX11_bottom ws_c_X11_bottom ({ frames := 0, cells := 0, slots := 0, locals := 0 }) (jy_P [.ref h0] D vwCl (jT k) jW [(h0, .inr (10, [.int 0, .long 0, .long 1, .ref t0, .ref a2, .ref s0, .ref a4, .int 0, .ref a5, .ref a6, .ref a7, .ref a8, .ref a9, .ref a10, .int 0]))] sz) (va_Ql (fun (r : Int64) (u : Unit) => r = 1) (jy_B D vwCl (va_A [(h0, .inr (10, [.int 0, .long 0, .long 1, .ref t0, .ref a2, .ref s0, .ref a4, .int 0, .ref a5, .ref a6, .ref a7, .ref a8, .ref a9, .ref a10, .int 0]))] sz) (fun (u : Unit) => [])) (va_A [(h0, .inr (10, [.int 0, .long 0, .long 1, .ref t0, .ref a2, .ref s0, .ref a4, .int 0, .ref a5, .ref a6, .ref a7, .ref a8, .ref a9, .ref a10, .int 0]))] sz)) 0 0 (va_A [(h0, .inr (10, [.int 0, .long 0, .long 1, .ref t0, .ref a2, .ref s0, .ref a4, .int 0, .ref a5, .ref a6, .ref a7, .ref a8, .ref a9, .ref a10, .int 0]))] sz) := by
  refine jy_met (cc := cX11_bottom) (maxL := 1) (ret := (some .long)) (lv := [(0, .ref h0)]) (by decide) rfl (Nat.le_of_ble_eq_true rfl) rfl ?_
  intro p e s m below meth c F hr hlk hnm hN hA
  have hiX11 : ∀ w ∈ u_ws RX11 TX11 15, w ∈ ws_c_X11_bottom := fun w hw => List.mem_cons_of_mem _ (List.mem_append_right _ hw)
  refine jy_aload_n (pc' := 1) F 0 dX11_bottom_0 rfl rfl rfl ?_
  refine jy_get (pc' := 4) (C := RX11) (T := TX11) (N := 15) (ci := 10) (v := .long 1) F hiX11 0 rfl rfl 2 (by decide) dX11_bottom_1 (List.mem_of_getElem? (i := 1) rfl) rfl rfl ?_
  refine jy_widen (cells' := 0) (slots' := 0) (by decide) (by decide) ?_
  exact jy_lret (v := 1) F hr hlk () (rfl) [] rfl (by decide) dX11_bottom_4
abbrev cX11_write : ByteArray := prog_1_method_6_code
def yX11_write : MethodName := ⟨RX11, "write", "(IIJ)Z"⟩
theorem hdX11_write : yX11_write.cls ≠ "java/lang/invoke/MethodHandle" ∧ yX11_write.cls ≠ "java/lang/invoke/VarHandle" ∧ (parseMethodDescriptor yX11_write.desc).map (fun d => d.parameters.length) = some 3 := by decide +kernel
theorem dX11_write_0 : decode cX11_write 0 = .ok (.aload_n 0, 1) := by decide +kernel
theorem dX11_write_1 : decode cX11_write 1 = .ok (.getfield 10, 3) := by decide +kernel
theorem dX11_write_4 : decode cX11_write 4 = .ok (.iload_n 1, 1) := by decide +kernel
theorem dX11_write_5 : decode cX11_write 5 = .ok (.iload_n 2, 1) := by decide +kernel
theorem dX11_write_6 : decode cX11_write 6 = .ok (.invokevirtual 102, 3) := by decide +kernel
theorem dX11_write_9 : decode cX11_write 9 = .ok (.istore 5, 2) := by decide +kernel
theorem dX11_write_11 : decode cX11_write 11 = .ok (.iload 5, 2) := by decide +kernel
theorem dX11_write_13 : decode cX11_write 13 = .ok (.ifCond .eq 10, 3) := by decide +kernel
theorem dX11_write_16 : decode cX11_write 16 = .ok (.aload_n 0, 1) := by decide +kernel
theorem dX11_write_17 : decode cX11_write 17 = .ok (.iload 5, 2) := by decide +kernel
theorem dX11_write_19 : decode cX11_write 19 = .ok (.invokevirtual 91, 3) := by decide +kernel
theorem dX11_write_22 : decode cX11_write 22 = .ok (.ireturn, 1) := by decide +kernel
def ws_c_X11_write : List Cond := .code yX11_write cX11_write 6 (some .boolean) :: ([.fieldLink "NestedChecker" 10 "NestedChecker" "trays" "LNestedChecker$Trays;", .code ⟨"NestedChecker$Trays", "refusal", "(II)I"⟩ cX9_refusal 3 (some .int), .code ⟨"NestedChecker$Trays", "has", "(I)Z"⟩ cX9_has 2 (some .boolean), .code ⟨"NestedChecker", "within", "(III)Z"⟩ cX11_within 3 (some .boolean), .initialized "NestedChecker", .static ⟨"NestedChecker", "within", "(III)Z"⟩, .initialized "NestedChecker$Trays", .instanceMethod ⟨"NestedChecker$Trays", "has", "(I)Z"⟩, .selects "NestedChecker$Trays" ⟨"NestedChecker$Trays", "has", "(I)Z"⟩ ⟨"NestedChecker$Trays", "has", "(I)Z"⟩, .methodLink "NestedChecker$Trays" 26 ⟨"NestedChecker$Trays", "has", "(I)Z"⟩, .code ⟨"NestedChecker$Trays", "isMissing", "(I)Z"⟩ cX9_isMissing 2 (some .boolean), .fieldLink "NestedChecker$Trays" 19 "NestedChecker$Trays" "places" "[I", .instanceMethod ⟨"NestedChecker$Trays", "isMissing", "(I)Z"⟩, .selects "NestedChecker$Trays" ⟨"NestedChecker$Trays", "isMissing", "(I)Z"⟩ ⟨"NestedChecker$Trays", "isMissing", "(I)Z"⟩, .methodLink "NestedChecker$Trays" 30 ⟨"NestedChecker$Trays", "isMissing", "(I)Z"⟩, .instanceMethod ⟨"NestedChecker$Trays", "refusal", "(II)I"⟩, .selects "NestedChecker$Trays" ⟨"NestedChecker$Trays", "refusal", "(II)I"⟩ ⟨"NestedChecker$Trays", "refusal", "(II)I"⟩, .methodLink "NestedChecker" 102 ⟨"NestedChecker$Trays", "refusal", "(II)I"⟩, .code ⟨"NestedChecker", "deny", "(I)Z"⟩ cX11_deny 2 (some .boolean), .fieldLink "NestedChecker" 72 "NestedChecker" "lastStatus" "I", .instanceMethod ⟨"NestedChecker", "deny", "(I)Z"⟩, .selects "NestedChecker" ⟨"NestedChecker", "deny", "(I)Z"⟩ ⟨"NestedChecker", "deny", "(I)Z"⟩, .methodLink "NestedChecker" 91 ⟨"NestedChecker", "deny", "(I)Z"⟩] ++ wsX110 ++ wsX90)
set_option maxRecDepth 20000 in
theorem g_c_X11_write_c_X9_refusal : GoodIn ws_c_X11_write ws_c_X9_refusal := goodIn_r _ [2, 3, 4, 5, 6, 7, 8, 9, 10, 11, 12, 13, 14, 15, 39, 40, 41] (by decide +kernel) (by decide +kernel)
set_option maxRecDepth 20000 in
theorem g_c_X11_write_c_X11_deny : GoodIn ws_c_X11_write ws_c_X11_deny := goodIn_r _ [19, 20, 24, 25, 26, 27, 28, 29, 30, 31, 32, 33, 34, 35, 36, 37, 38] (by decide +kernel) (by decide +kernel)
set_option maxHeartbeats 4000000 in
set_option maxRecDepth 100000 in
theorem c_X11_write (l : Launch) (D : va_G) (k : jK) (h0 : Nat) (a2 : Nat) (a4 : Nat) (a5 : Nat) (a6 : Nat) (a7 : Nat) (a8 : Nat) (a9 : Nat) (a10 : Nat) (t0 : Nat) (s0 : Nat) (t1 : Nat) (t2 : Nat) (t3 : Nat) (fp : Nat → Int32) (i1 : Int32) (i2 : Int32) (v1 : Int64) (sz : Nat) (hp : ∀ j, j < 4 → fp j = -1) : Met l yX11_write ws_c_X11_write ({ frames := 3, cells := 0, slots := 0, locals := 65 }) (jy_P [.ref h0, .int i1, .int i2, .long v1] D vwCl (jT k) jW [(h0, .inr (10, [.int 0, .long 0, .long 1, .ref t0, .ref a2, .ref s0, .ref a4, .int 0, .ref a5, .ref a6, .ref a7, .ref a8, .ref a9, .ref a10, .int 0])), (t0, .inr (8, [.ref t1, .ref t2, .ref t3])), (t3, .inl (k.2.1, 4, .inl fp))] sz) (va_Qi (fun (r : Int32) (u : Unit) => r = 0) (jy_B D vwCl (va_A [(h0, .inr (10, [.int 0, .long 0, .long 1, .ref t0, .ref a2, .ref s0, .ref a4, .int 0, .ref a5, .ref a6, .ref a7, .ref a8, .ref a9, .ref a10, .int 0])), (t0, .inr (8, [.ref t1, .ref t2, .ref t3])), (t3, .inl (k.2.1, 4, .inl fp))] sz) (fun (u : Unit) => [])) (va_A [(h0, .inr (10, [.int 0, .long 0, .long 1, .ref t0, .ref a2, .ref s0, .ref a4, .int 0, .ref a5, .ref a6, .ref a7, .ref a8, .ref a9, .ref a10, .int 0])), (t0, .inr (8, [.ref t1, .ref t2, .ref t3])), (t3, .inl (k.2.1, 4, .inl fp))] sz)) 0 0 (va_A [(h0, .inr (10, [.int 0, .long 0, .long 1, .ref t0, .ref a2, .ref s0, .ref a4, .int 0, .ref a5, .ref a6, .ref a7, .ref a8, .ref a9, .ref a10, .int 0])), (t0, .inr (8, [.ref t1, .ref t2, .ref t3])), (t3, .inl (k.2.1, 4, .inl fp))] sz) := by
  refine jy_met (cc := cX11_write) (maxL := 6) (ret := (some .boolean)) (lv := [(0, .ref h0), (1, .int i1), (2, .int i2), (3, .long v1)]) (by decide) rfl (Nat.le_of_ble_eq_true rfl) rfl ?_
  intro p e s m below meth c F hr hlk hnm hN hA
  have hiX11 : ∀ w ∈ u_ws RX11 TX11 15, w ∈ ws_c_X11_write := fun w hw => List.mem_cons_of_mem _ (List.mem_append_left _ (List.mem_append_right _ hw))
  have hiX9 : ∀ w ∈ u_ws RX9 TX9 3, w ∈ ws_c_X11_write := fun w hw => List.mem_cons_of_mem _ (List.mem_append_right _ hw)
  refine jy_aload_n (pc' := 1) F 0 dX11_write_0 rfl rfl rfl ?_
  refine jy_get (pc' := 4) (C := RX11) (T := TX11) (N := 15) (ci := 10) (v := .ref t0) F hiX11 0 rfl rfl 3 (by decide) dX11_write_1 (List.mem_of_getElem? (i := 1) rfl) rfl rfl ?_
  refine jy_iload_n (pc' := 5) F 1 dX11_write_4 rfl rfl rfl ?_
  refine jy_iload_n (pc' := 6) F 2 dX11_write_5 rfl rfl rfl ?_
  refine jy_callSi (pc' := 9) (jy_runV (As := [.int i1, .int i2]) (b := t0) (q0 := 1) (ci := 8) (C := RX9) (T := TX9) (N := 3) (st := []) F hN (fun sz => c_X9_refusal l D k t0 t1 t2 t3 fp i1 i2 sz (hp)) (jy_cV F g_c_X11_write_c_X9_refusal rfl hdX9_refusal (List.mem_of_getElem? (i := 7) rfl) (List.mem_of_getElem? (i := 18) rfl) (List.mem_of_getElem? (i := 16) rfl) (List.mem_of_getElem? (i := 17) rfl) rfl rfl ⟨by decide, by decide⟩) rfl rfl [1, 2] rfl (by decide) rfl rfl (Nat.le_of_ble_eq_true rfl) dX11_write_6 ⟨by decide, by decide⟩) rfl (fun r_1 e_2 => ?_)
  refine jy_istore (pc' := 11) (lv' := [(5, .int r_1), (0, .ref h0), (1, .int i1), (2, .int i2), (3, .long v1)]) F dX11_write_9 (by decide) rfl rfl ?_
  refine jy_iload (pc' := 13) F 0 dX11_write_11 rfl rfl ?_
  refine jy_if_eq (pc' := 16) (tgt := 23) F dX11_write_13 (by decide) rfl (fun h => absurd h (e_2)) (fun _ => ?_)
  refine jy_aload_n (pc' := 17) F 1 dX11_write_16 rfl rfl rfl ?_
  refine jy_iload (pc' := 19) F 0 dX11_write_17 rfl rfl ?_
  refine jy_calli (pc' := 22) (cells' := 0) (slots' := 0) (wr := [(t0, .inr (8, [.ref t1, .ref t2, .ref t3])), (t3, .inl (k.2.1, 4, .inl fp))]) hA [0] [1, 2] rfl rfl (by decide) (by decide) (jy_runV (As := [.int r_1]) (b := h0) (q0 := 0) (ci := 10) (C := RX11) (T := TX11) (N := 15) (st := []) F hN (fun sz => c_X11_deny l D k h0 0 (.long 0) (.long 1) (.ref t0) (.ref a2) (.ref s0) (.ref a4) (.int 0) (.ref a5) (.ref a6) (.ref a7) (.ref a8) (.ref a9) (.ref a10) (.int 0) r_1 sz ) (jy_cV F g_c_X11_write_c_X11_deny rfl hdX11_deny (List.mem_of_getElem? (i := 5) rfl) (List.mem_of_getElem? (i := 23) rfl) (List.mem_of_getElem? (i := 21) rfl) (List.mem_of_getElem? (i := 22) rfl) rfl rfl ⟨by decide, by decide⟩) rfl rfl [0] rfl (by decide) rfl rfl (Nat.le_of_ble_eq_true rfl) dX11_write_19 ⟨by decide, by decide⟩) rfl rfl rfl (fun r_6 u_4 e_5 => ?_)
  subst e_5
  refine jy_widen (cells' := 0) (slots' := 0) (by decide) (by decide) ?_
  exact jy_zret (v := 0) F hr hlk (by first | rfl | decide) () (rfl) [] rfl (by decide) dX11_write_22
abbrev cX11_read : ByteArray := prog_1_method_7_code
def yX11_read : MethodName := ⟨RX11, "read", "(II)J"⟩
theorem hdX11_read : yX11_read.cls ≠ "java/lang/invoke/MethodHandle" ∧ yX11_read.cls ≠ "java/lang/invoke/VarHandle" ∧ (parseMethodDescriptor yX11_read.desc).map (fun d => d.parameters.length) = some 2 := by decide +kernel
theorem dX11_read_0 : decode cX11_read 0 = .ok (.aload_n 0, 1) := by decide +kernel
theorem dX11_read_1 : decode cX11_read 1 = .ok (.getfield 10, 3) := by decide +kernel
theorem dX11_read_4 : decode cX11_read 4 = .ok (.iload_n 1, 1) := by decide +kernel
theorem dX11_read_5 : decode cX11_read 5 = .ok (.iload_n 2, 1) := by decide +kernel
theorem dX11_read_6 : decode cX11_read 6 = .ok (.invokevirtual 102, 3) := by decide +kernel
theorem dX11_read_9 : decode cX11_read 9 = .ok (.istore_n 3, 1) := by decide +kernel
theorem dX11_read_10 : decode cX11_read 10 = .ok (.iload_n 3, 1) := by decide +kernel
theorem dX11_read_11 : decode cX11_read 11 = .ok (.ifCond .eq 10, 3) := by decide +kernel
theorem dX11_read_14 : decode cX11_read 14 = .ok (.aload_n 0, 1) := by decide +kernel
theorem dX11_read_15 : decode cX11_read 15 = .ok (.iload_n 3, 1) := by decide +kernel
theorem dX11_read_16 : decode cX11_read 16 = .ok (.invokevirtual 110, 3) := by decide +kernel
theorem dX11_read_19 : decode cX11_read 19 = .ok (.i2l, 1) := by decide +kernel
theorem dX11_read_20 : decode cX11_read 20 = .ok (.lreturn, 1) := by decide +kernel
def ws_c_X11_read : List Cond := .code yX11_read cX11_read 4 (some .long) :: ([.fieldLink "NestedChecker" 10 "NestedChecker" "trays" "LNestedChecker$Trays;", .code ⟨"NestedChecker$Trays", "refusal", "(II)I"⟩ cX9_refusal 3 (some .int), .code ⟨"NestedChecker$Trays", "has", "(I)Z"⟩ cX9_has 2 (some .boolean), .code ⟨"NestedChecker", "within", "(III)Z"⟩ cX11_within 3 (some .boolean), .initialized "NestedChecker", .static ⟨"NestedChecker", "within", "(III)Z"⟩, .initialized "NestedChecker$Trays", .instanceMethod ⟨"NestedChecker$Trays", "has", "(I)Z"⟩, .selects "NestedChecker$Trays" ⟨"NestedChecker$Trays", "has", "(I)Z"⟩ ⟨"NestedChecker$Trays", "has", "(I)Z"⟩, .methodLink "NestedChecker$Trays" 26 ⟨"NestedChecker$Trays", "has", "(I)Z"⟩, .code ⟨"NestedChecker$Trays", "isMissing", "(I)Z"⟩ cX9_isMissing 2 (some .boolean), .fieldLink "NestedChecker$Trays" 19 "NestedChecker$Trays" "places" "[I", .instanceMethod ⟨"NestedChecker$Trays", "isMissing", "(I)Z"⟩, .selects "NestedChecker$Trays" ⟨"NestedChecker$Trays", "isMissing", "(I)Z"⟩ ⟨"NestedChecker$Trays", "isMissing", "(I)Z"⟩, .methodLink "NestedChecker$Trays" 30 ⟨"NestedChecker$Trays", "isMissing", "(I)Z"⟩, .instanceMethod ⟨"NestedChecker$Trays", "refusal", "(II)I"⟩, .selects "NestedChecker$Trays" ⟨"NestedChecker$Trays", "refusal", "(II)I"⟩ ⟨"NestedChecker$Trays", "refusal", "(II)I"⟩, .methodLink "NestedChecker" 102 ⟨"NestedChecker$Trays", "refusal", "(II)I"⟩, .code ⟨"NestedChecker", "refuse", "(I)I"⟩ cX11_refuse 2 (some .int), .fieldLink "NestedChecker" 72 "NestedChecker" "lastStatus" "I", .instanceMethod ⟨"NestedChecker", "refuse", "(I)I"⟩, .selects "NestedChecker" ⟨"NestedChecker", "refuse", "(I)I"⟩ ⟨"NestedChecker", "refuse", "(I)I"⟩, .methodLink "NestedChecker" 110 ⟨"NestedChecker", "refuse", "(I)I"⟩] ++ wsX110 ++ wsX90)
set_option maxRecDepth 20000 in
theorem g_c_X11_read_c_X9_refusal : GoodIn ws_c_X11_read ws_c_X9_refusal := goodIn_r _ [2, 3, 4, 5, 6, 7, 8, 9, 10, 11, 12, 13, 14, 15, 39, 40, 41] (by decide +kernel) (by decide +kernel)
set_option maxRecDepth 20000 in
theorem g_c_X11_read_c_X11_refuse : GoodIn ws_c_X11_read ws_c_X11_refuse := goodIn_r _ [19, 20, 24, 25, 26, 27, 28, 29, 30, 31, 32, 33, 34, 35, 36, 37, 38] (by decide +kernel) (by decide +kernel)
set_option maxHeartbeats 4000000 in
set_option maxRecDepth 100000 in
theorem c_X11_read (l : Launch) (D : va_G) (k : jK) (h0 : Nat) (a2 : Nat) (a4 : Nat) (a5 : Nat) (a6 : Nat) (a7 : Nat) (a8 : Nat) (a9 : Nat) (a10 : Nat) (t0 : Nat) (s0 : Nat) (t1 : Nat) (t2 : Nat) (t3 : Nat) (fp : Nat → Int32) (i1 : Int32) (i2 : Int32) (sz : Nat) (hp : ∀ j, j < 4 → fp j = -1) : Met l yX11_read ws_c_X11_read ({ frames := 3, cells := 0, slots := 0, locals := 65 }) (jy_P [.ref h0, .int i1, .int i2] D vwCl (jT k) jW [(h0, .inr (10, [.int 0, .long 0, .long 1, .ref t0, .ref a2, .ref s0, .ref a4, .int 0, .ref a5, .ref a6, .ref a7, .ref a8, .ref a9, .ref a10, .int 0])), (t0, .inr (8, [.ref t1, .ref t2, .ref t3])), (t3, .inl (k.2.1, 4, .inl fp))] sz) (va_Ql (fun (r : Int64) (u : Unit) => r = -1) (jy_B D vwCl (va_A [(h0, .inr (10, [.int 0, .long 0, .long 1, .ref t0, .ref a2, .ref s0, .ref a4, .int 0, .ref a5, .ref a6, .ref a7, .ref a8, .ref a9, .ref a10, .int 0])), (t0, .inr (8, [.ref t1, .ref t2, .ref t3])), (t3, .inl (k.2.1, 4, .inl fp))] sz) (fun (u : Unit) => [])) (va_A [(h0, .inr (10, [.int 0, .long 0, .long 1, .ref t0, .ref a2, .ref s0, .ref a4, .int 0, .ref a5, .ref a6, .ref a7, .ref a8, .ref a9, .ref a10, .int 0])), (t0, .inr (8, [.ref t1, .ref t2, .ref t3])), (t3, .inl (k.2.1, 4, .inl fp))] sz)) 0 0 (va_A [(h0, .inr (10, [.int 0, .long 0, .long 1, .ref t0, .ref a2, .ref s0, .ref a4, .int 0, .ref a5, .ref a6, .ref a7, .ref a8, .ref a9, .ref a10, .int 0])), (t0, .inr (8, [.ref t1, .ref t2, .ref t3])), (t3, .inl (k.2.1, 4, .inl fp))] sz) := by
  refine jy_met (cc := cX11_read) (maxL := 4) (ret := (some .long)) (lv := [(0, .ref h0), (1, .int i1), (2, .int i2)]) (by decide) rfl (Nat.le_of_ble_eq_true rfl) rfl ?_
  intro p e s m below meth c F hr hlk hnm hN hA
  have hiX11 : ∀ w ∈ u_ws RX11 TX11 15, w ∈ ws_c_X11_read := fun w hw => List.mem_cons_of_mem _ (List.mem_append_left _ (List.mem_append_right _ hw))
  have hiX9 : ∀ w ∈ u_ws RX9 TX9 3, w ∈ ws_c_X11_read := fun w hw => List.mem_cons_of_mem _ (List.mem_append_right _ hw)
  refine jy_aload_n (pc' := 1) F 0 dX11_read_0 rfl rfl rfl ?_
  refine jy_get (pc' := 4) (C := RX11) (T := TX11) (N := 15) (ci := 10) (v := .ref t0) F hiX11 0 rfl rfl 3 (by decide) dX11_read_1 (List.mem_of_getElem? (i := 1) rfl) rfl rfl ?_
  refine jy_iload_n (pc' := 5) F 1 dX11_read_4 rfl rfl rfl ?_
  refine jy_iload_n (pc' := 6) F 2 dX11_read_5 rfl rfl rfl ?_
  refine jy_callSi (pc' := 9) (jy_runV (As := [.int i1, .int i2]) (b := t0) (q0 := 1) (ci := 8) (C := RX9) (T := TX9) (N := 3) (st := []) F hN (fun sz => c_X9_refusal l D k t0 t1 t2 t3 fp i1 i2 sz (hp)) (jy_cV F g_c_X11_read_c_X9_refusal rfl hdX9_refusal (List.mem_of_getElem? (i := 7) rfl) (List.mem_of_getElem? (i := 18) rfl) (List.mem_of_getElem? (i := 16) rfl) (List.mem_of_getElem? (i := 17) rfl) rfl rfl ⟨by decide, by decide⟩) rfl rfl [1, 2] rfl (by decide) rfl rfl (Nat.le_of_ble_eq_true rfl) dX11_read_6 ⟨by decide, by decide⟩) rfl (fun r_1 e_2 => ?_)
  refine jy_istore_n (pc' := 10) (lv' := [(3, .int r_1), (0, .ref h0), (1, .int i1), (2, .int i2)]) F dX11_read_9 rfl (by decide) rfl rfl ?_
  refine jy_iload_n (pc' := 11) F 0 dX11_read_10 rfl rfl rfl ?_
  refine jy_if_eq (pc' := 14) (tgt := 21) F dX11_read_11 (by decide) rfl (fun h => absurd h (e_2)) (fun _ => ?_)
  refine jy_aload_n (pc' := 15) F 1 dX11_read_14 rfl rfl rfl ?_
  refine jy_iload_n (pc' := 16) F 0 dX11_read_15 rfl rfl rfl ?_
  refine jy_calli (pc' := 19) (cells' := 0) (slots' := 0) (wr := [(t0, .inr (8, [.ref t1, .ref t2, .ref t3])), (t3, .inl (k.2.1, 4, .inl fp))]) hA [0] [1, 2] rfl rfl (by decide) (by decide) (jy_runV (As := [.int r_1]) (b := h0) (q0 := 0) (ci := 10) (C := RX11) (T := TX11) (N := 15) (st := []) F hN (fun sz => c_X11_refuse l D k h0 0 (.long 0) (.long 1) (.ref t0) (.ref a2) (.ref s0) (.ref a4) (.int 0) (.ref a5) (.ref a6) (.ref a7) (.ref a8) (.ref a9) (.ref a10) (.int 0) r_1 sz ) (jy_cV F g_c_X11_read_c_X11_refuse rfl hdX11_refuse (List.mem_of_getElem? (i := 5) rfl) (List.mem_of_getElem? (i := 23) rfl) (List.mem_of_getElem? (i := 21) rfl) (List.mem_of_getElem? (i := 22) rfl) rfl rfl ⟨by decide, by decide⟩) rfl rfl [0] rfl (by decide) rfl rfl (Nat.le_of_ble_eq_true rfl) dX11_read_16 ⟨by decide, by decide⟩) rfl rfl rfl (fun r_6 u_4 e_5 => ?_)
  subst e_5
  refine jy_i2l (pc' := 20) (v := (-1)) F dX11_read_19 (by decide) rfl ?_
  refine jy_widen (cells' := 0) (slots' := 0) (by decide) (by decide) ?_
  exact jy_lret (v := (-1)) F hr hlk () (rfl) [] rfl (by decide) dX11_read_20
abbrev cX11_pour : ByteArray := prog_1_method_8_code
def yX11_pour : MethodName := ⟨RX11, "pour", "(IIIII)Z"⟩
theorem hdX11_pour : yX11_pour.cls ≠ "java/lang/invoke/MethodHandle" ∧ yX11_pour.cls ≠ "java/lang/invoke/VarHandle" ∧ (parseMethodDescriptor yX11_pour.desc).map (fun d => d.parameters.length) = some 5 := by decide +kernel
theorem dX11_pour_0 : decode cX11_pour 0 = .ok (.aload_n 0, 1) := by decide +kernel
theorem dX11_pour_1 : decode cX11_pour 1 = .ok (.getfield 10, 3) := by decide +kernel
theorem dX11_pour_4 : decode cX11_pour 4 = .ok (.iload_n 1, 1) := by decide +kernel
theorem dX11_pour_5 : decode cX11_pour 5 = .ok (.iload_n 2, 1) := by decide +kernel
theorem dX11_pour_6 : decode cX11_pour 6 = .ok (.iload_n 3, 1) := by decide +kernel
theorem dX11_pour_7 : decode cX11_pour 7 = .ok (.iload 4, 2) := by decide +kernel
theorem dX11_pour_9 : decode cX11_pour 9 = .ok (.iload 5, 2) := by decide +kernel
theorem dX11_pour_11 : decode cX11_pour 11 = .ok (.invokevirtual 118, 3) := by decide +kernel
theorem dX11_pour_14 : decode cX11_pour 14 = .ok (.istore 6, 2) := by decide +kernel
theorem dX11_pour_16 : decode cX11_pour 16 = .ok (.iload 6, 2) := by decide +kernel
theorem dX11_pour_18 : decode cX11_pour 18 = .ok (.ifCond .eq 10, 3) := by decide +kernel
theorem dX11_pour_21 : decode cX11_pour 21 = .ok (.aload_n 0, 1) := by decide +kernel
theorem dX11_pour_22 : decode cX11_pour 22 = .ok (.iload 6, 2) := by decide +kernel
theorem dX11_pour_24 : decode cX11_pour 24 = .ok (.invokevirtual 91, 3) := by decide +kernel
theorem dX11_pour_27 : decode cX11_pour 27 = .ok (.ireturn, 1) := by decide +kernel
def ws_c_X11_pour : List Cond := .code yX11_pour cX11_pour 7 (some .boolean) :: ([.fieldLink "NestedChecker" 10 "NestedChecker" "trays" "LNestedChecker$Trays;", .code ⟨"NestedChecker$Trays", "pourRefusal", "(IIIII)I"⟩ cX9_pourRefusal 7 (some .int), .code ⟨"NestedChecker$Trays", "has", "(I)Z"⟩ cX9_has 2 (some .boolean), .code ⟨"NestedChecker", "within", "(III)Z"⟩ cX11_within 3 (some .boolean), .initialized "NestedChecker", .static ⟨"NestedChecker", "within", "(III)Z"⟩, .initialized "NestedChecker$Trays", .instanceMethod ⟨"NestedChecker$Trays", "has", "(I)Z"⟩, .selects "NestedChecker$Trays" ⟨"NestedChecker$Trays", "has", "(I)Z"⟩ ⟨"NestedChecker$Trays", "has", "(I)Z"⟩, .methodLink "NestedChecker$Trays" 26 ⟨"NestedChecker$Trays", "has", "(I)Z"⟩, .code ⟨"NestedChecker$Trays", "isMissing", "(I)Z"⟩ cX9_isMissing 2 (some .boolean), .fieldLink "NestedChecker$Trays" 19 "NestedChecker$Trays" "places" "[I", .instanceMethod ⟨"NestedChecker$Trays", "isMissing", "(I)Z"⟩, .selects "NestedChecker$Trays" ⟨"NestedChecker$Trays", "isMissing", "(I)Z"⟩ ⟨"NestedChecker$Trays", "isMissing", "(I)Z"⟩, .methodLink "NestedChecker$Trays" 30 ⟨"NestedChecker$Trays", "isMissing", "(I)Z"⟩, .instanceMethod ⟨"NestedChecker$Trays", "pourRefusal", "(IIIII)I"⟩, .selects "NestedChecker$Trays" ⟨"NestedChecker$Trays", "pourRefusal", "(IIIII)I"⟩ ⟨"NestedChecker$Trays", "pourRefusal", "(IIIII)I"⟩, .methodLink "NestedChecker" 118 ⟨"NestedChecker$Trays", "pourRefusal", "(IIIII)I"⟩, .code ⟨"NestedChecker", "deny", "(I)Z"⟩ cX11_deny 2 (some .boolean), .fieldLink "NestedChecker" 72 "NestedChecker" "lastStatus" "I", .instanceMethod ⟨"NestedChecker", "deny", "(I)Z"⟩, .selects "NestedChecker" ⟨"NestedChecker", "deny", "(I)Z"⟩ ⟨"NestedChecker", "deny", "(I)Z"⟩, .methodLink "NestedChecker" 91 ⟨"NestedChecker", "deny", "(I)Z"⟩] ++ wsX110 ++ wsX90)
set_option maxRecDepth 20000 in
theorem g_c_X11_pour_c_X9_pourRefusal : GoodIn ws_c_X11_pour ws_c_X9_pourRefusal := goodIn_r _ [2, 3, 4, 5, 6, 7, 8, 9, 10, 11, 12, 13, 14, 15, 39, 40, 41] (by decide +kernel) (by decide +kernel)
set_option maxRecDepth 20000 in
theorem g_c_X11_pour_c_X11_deny : GoodIn ws_c_X11_pour ws_c_X11_deny := goodIn_r _ [19, 20, 24, 25, 26, 27, 28, 29, 30, 31, 32, 33, 34, 35, 36, 37, 38] (by decide +kernel) (by decide +kernel)
set_option maxHeartbeats 4000000 in
set_option maxRecDepth 100000 in
theorem c_X11_pour (l : Launch) (D : va_G) (k : jK) (h0 : Nat) (a2 : Nat) (a4 : Nat) (a5 : Nat) (a6 : Nat) (a7 : Nat) (a8 : Nat) (a9 : Nat) (a10 : Nat) (t0 : Nat) (s0 : Nat) (t1 : Nat) (t2 : Nat) (t3 : Nat) (fp : Nat → Int32) (i1 : Int32) (i2 : Int32) (i3 : Int32) (i4 : Int32) (i5 : Int32) (sz : Nat) (hp : ∀ j, j < 4 → fp j = -1) : Met l yX11_pour ws_c_X11_pour ({ frames := 3, cells := 0, slots := 0, locals := 69 }) (jy_P [.ref h0, .int i1, .int i2, .int i3, .int i4, .int i5] D vwCl (jT k) jW [(h0, .inr (10, [.int 0, .long 0, .long 1, .ref t0, .ref a2, .ref s0, .ref a4, .int 0, .ref a5, .ref a6, .ref a7, .ref a8, .ref a9, .ref a10, .int 0])), (t0, .inr (8, [.ref t1, .ref t2, .ref t3])), (t3, .inl (k.2.1, 4, .inl fp))] sz) (va_Qi (fun (r : Int32) (u : Unit) => r = 0) (jy_B D vwCl (va_A [(h0, .inr (10, [.int 0, .long 0, .long 1, .ref t0, .ref a2, .ref s0, .ref a4, .int 0, .ref a5, .ref a6, .ref a7, .ref a8, .ref a9, .ref a10, .int 0])), (t0, .inr (8, [.ref t1, .ref t2, .ref t3])), (t3, .inl (k.2.1, 4, .inl fp))] sz) (fun (u : Unit) => [])) (va_A [(h0, .inr (10, [.int 0, .long 0, .long 1, .ref t0, .ref a2, .ref s0, .ref a4, .int 0, .ref a5, .ref a6, .ref a7, .ref a8, .ref a9, .ref a10, .int 0])), (t0, .inr (8, [.ref t1, .ref t2, .ref t3])), (t3, .inl (k.2.1, 4, .inl fp))] sz)) 0 0 (va_A [(h0, .inr (10, [.int 0, .long 0, .long 1, .ref t0, .ref a2, .ref s0, .ref a4, .int 0, .ref a5, .ref a6, .ref a7, .ref a8, .ref a9, .ref a10, .int 0])), (t0, .inr (8, [.ref t1, .ref t2, .ref t3])), (t3, .inl (k.2.1, 4, .inl fp))] sz) := by
  refine jy_met (cc := cX11_pour) (maxL := 7) (ret := (some .boolean)) (lv := [(0, .ref h0), (1, .int i1), (2, .int i2), (3, .int i3), (4, .int i4), (5, .int i5)]) (by decide) rfl (Nat.le_of_ble_eq_true rfl) rfl ?_
  intro p e s m below meth c F hr hlk hnm hN hA
  have hiX11 : ∀ w ∈ u_ws RX11 TX11 15, w ∈ ws_c_X11_pour := fun w hw => List.mem_cons_of_mem _ (List.mem_append_left _ (List.mem_append_right _ hw))
  have hiX9 : ∀ w ∈ u_ws RX9 TX9 3, w ∈ ws_c_X11_pour := fun w hw => List.mem_cons_of_mem _ (List.mem_append_right _ hw)
  refine jy_aload_n (pc' := 1) F 0 dX11_pour_0 rfl rfl rfl ?_
  refine jy_get (pc' := 4) (C := RX11) (T := TX11) (N := 15) (ci := 10) (v := .ref t0) F hiX11 0 rfl rfl 3 (by decide) dX11_pour_1 (List.mem_of_getElem? (i := 1) rfl) rfl rfl ?_
  refine jy_iload_n (pc' := 5) F 1 dX11_pour_4 rfl rfl rfl ?_
  refine jy_iload_n (pc' := 6) F 2 dX11_pour_5 rfl rfl rfl ?_
  refine jy_iload_n (pc' := 7) F 3 dX11_pour_6 rfl rfl rfl ?_
  refine jy_iload (pc' := 9) F 4 dX11_pour_7 rfl rfl ?_
  refine jy_iload (pc' := 11) F 5 dX11_pour_9 rfl rfl ?_
  refine jy_callSi (pc' := 14) (jy_runV (As := [.int i1, .int i2, .int i3, .int i4, .int i5]) (b := t0) (q0 := 1) (ci := 8) (C := RX9) (T := TX9) (N := 3) (st := []) F hN (fun sz => c_X9_pourRefusal l D k t0 t1 t2 t3 fp i1 i2 i3 i4 i5 sz (hp)) (jy_cV F g_c_X11_pour_c_X9_pourRefusal rfl hdX9_pourRefusal (List.mem_of_getElem? (i := 7) rfl) (List.mem_of_getElem? (i := 18) rfl) (List.mem_of_getElem? (i := 16) rfl) (List.mem_of_getElem? (i := 17) rfl) rfl rfl ⟨by decide, by decide⟩) rfl rfl [1, 2] rfl (by decide) rfl rfl (Nat.le_of_ble_eq_true rfl) dX11_pour_11 ⟨by decide, by decide⟩) rfl (fun r_1 e_2 => ?_)
  refine jy_istore (pc' := 16) (lv' := [(6, .int r_1), (0, .ref h0), (1, .int i1), (2, .int i2), (3, .int i3), (4, .int i4), (5, .int i5)]) F dX11_pour_14 (by decide) rfl rfl ?_
  refine jy_iload (pc' := 18) F 0 dX11_pour_16 rfl rfl ?_
  refine jy_if_eq (pc' := 21) (tgt := 28) F dX11_pour_18 (by decide) rfl (fun h => absurd h (e_2)) (fun _ => ?_)
  refine jy_aload_n (pc' := 22) F 1 dX11_pour_21 rfl rfl rfl ?_
  refine jy_iload (pc' := 24) F 0 dX11_pour_22 rfl rfl ?_
  refine jy_calli (pc' := 27) (cells' := 0) (slots' := 0) (wr := [(t0, .inr (8, [.ref t1, .ref t2, .ref t3])), (t3, .inl (k.2.1, 4, .inl fp))]) hA [0] [1, 2] rfl rfl (by decide) (by decide) (jy_runV (As := [.int r_1]) (b := h0) (q0 := 0) (ci := 10) (C := RX11) (T := TX11) (N := 15) (st := []) F hN (fun sz => c_X11_deny l D k h0 0 (.long 0) (.long 1) (.ref t0) (.ref a2) (.ref s0) (.ref a4) (.int 0) (.ref a5) (.ref a6) (.ref a7) (.ref a8) (.ref a9) (.ref a10) (.int 0) r_1 sz ) (jy_cV F g_c_X11_pour_c_X11_deny rfl hdX11_deny (List.mem_of_getElem? (i := 5) rfl) (List.mem_of_getElem? (i := 23) rfl) (List.mem_of_getElem? (i := 21) rfl) (List.mem_of_getElem? (i := 22) rfl) rfl rfl ⟨by decide, by decide⟩) rfl rfl [0] rfl (by decide) rfl rfl (Nat.le_of_ble_eq_true rfl) dX11_pour_24 ⟨by decide, by decide⟩) rfl rfl rfl (fun r_6 u_4 e_5 => ?_)
  subst e_5
  refine jy_widen (cells' := 0) (slots' := 0) (by decide) (by decide) ?_
  exact jy_zret (v := 0) F hr hlk (by first | rfl | decide) () (rfl) [] rfl (by decide) dX11_pour_27
abbrev cX11_automaton : ByteArray := prog_1_method_13_code
def yX11_automaton : MethodName := ⟨RX11, "automaton", "(II)I"⟩
theorem hdX11_automaton : yX11_automaton.cls ≠ "java/lang/invoke/MethodHandle" ∧ yX11_automaton.cls ≠ "java/lang/invoke/VarHandle" ∧ (parseMethodDescriptor yX11_automaton.desc).map (fun d => d.parameters.length) = some 2 := by decide +kernel
theorem dX11_automaton_0 : decode cX11_automaton 0 = .ok (.aload_n 0, 1) := by decide +kernel
theorem dX11_automaton_1 : decode cX11_automaton 1 = .ok (.getfield 26, 3) := by decide +kernel
theorem dX11_automaton_4 : decode cX11_automaton 4 = .ok (.iload_n 1, 1) := by decide +kernel
theorem dX11_automaton_5 : decode cX11_automaton 5 = .ok (.invokevirtual 163, 3) := by decide +kernel
theorem dX11_automaton_8 : decode cX11_automaton 8 = .ok (.ifCond .ne 9, 3) := by decide +kernel
theorem dX11_automaton_11 : decode cX11_automaton 11 = .ok (.aload_n 0, 1) := by decide +kernel
theorem dX11_automaton_12 : decode cX11_automaton 12 = .ok (.iconst 1, 1) := by decide +kernel
theorem dX11_automaton_13 : decode cX11_automaton 13 = .ok (.invokevirtual 110, 3) := by decide +kernel
theorem dX11_automaton_16 : decode cX11_automaton 16 = .ok (.ireturn, 1) := by decide +kernel
def ws_c_X11_automaton : List Cond := .code yX11_automaton cX11_automaton 4 (some .int) :: ([.fieldLink "NestedChecker" 26 "NestedChecker" "live" "LNestedChecker$Setting;", .code ⟨"NestedChecker$Setting", "has", "(I)Z"⟩ cX5_has 2 (some .boolean), .fieldLink "NestedChecker$Setting" 38 "NestedChecker$Setting" "automata" "I", .initialized "NestedChecker$Setting", .instanceMethod ⟨"NestedChecker$Setting", "has", "(I)Z"⟩, .selects "NestedChecker$Setting" ⟨"NestedChecker$Setting", "has", "(I)Z"⟩ ⟨"NestedChecker$Setting", "has", "(I)Z"⟩, .methodLink "NestedChecker" 163 ⟨"NestedChecker$Setting", "has", "(I)Z"⟩, .code ⟨"NestedChecker", "refuse", "(I)I"⟩ cX11_refuse 2 (some .int), .fieldLink "NestedChecker" 72 "NestedChecker" "lastStatus" "I", .initialized "NestedChecker", .instanceMethod ⟨"NestedChecker", "refuse", "(I)I"⟩, .selects "NestedChecker" ⟨"NestedChecker", "refuse", "(I)I"⟩ ⟨"NestedChecker", "refuse", "(I)I"⟩, .methodLink "NestedChecker" 110 ⟨"NestedChecker", "refuse", "(I)I"⟩] ++ wsX110 ++ wsX50)
set_option maxRecDepth 20000 in
theorem g_c_X11_automaton_c_X5_has : GoodIn ws_c_X11_automaton ws_c_X5_has := goodIn_r _ [2, 3, 29, 30, 31, 32, 33, 34, 35] (by decide +kernel) (by decide +kernel)
set_option maxRecDepth 20000 in
theorem g_c_X11_automaton_c_X11_refuse : GoodIn ws_c_X11_automaton ws_c_X11_refuse := goodIn_r _ [8, 9, 14, 15, 16, 17, 18, 19, 20, 21, 22, 23, 24, 25, 26, 27, 28] (by decide +kernel) (by decide +kernel)
set_option maxHeartbeats 4000000 in
set_option maxRecDepth 100000 in
theorem c_X11_automaton (l : Launch) (D : va_G) (k : jK) (h0 : Nat) (a2 : Nat) (a4 : Nat) (a5 : Nat) (a6 : Nat) (a7 : Nat) (a8 : Nat) (a9 : Nat) (a10 : Nat) (t0 : Nat) (s0 : Nat) (s1 : Nat) (s2 : Nat) (s3 : Nat) (i1 : Int32) (i2 : Int32) (sz : Nat)  : Met l yX11_automaton ws_c_X11_automaton ({ frames := 1, cells := 0, slots := 0, locals := 21 }) (jy_P [.ref h0, .int i1, .int i2] D vwCl (jT k) jW [(h0, .inr (10, [.int 0, .long 0, .long 1, .ref t0, .ref a2, .ref s0, .ref a4, .int 0, .ref a5, .ref a6, .ref a7, .ref a8, .ref a9, .ref a10, .int 0])), (s0, .inr (4, [.int 0, .int 0, .int 0, .int 0, .ref s1, .ref s2, .ref s3]))] sz) (va_Qi (fun (r : Int32) (u : Unit) => r = -1) (jy_B D vwCl (va_A [(h0, .inr (10, [.int 0, .long 0, .long 1, .ref t0, .ref a2, .ref s0, .ref a4, .int 0, .ref a5, .ref a6, .ref a7, .ref a8, .ref a9, .ref a10, .int 0])), (s0, .inr (4, [.int 0, .int 0, .int 0, .int 0, .ref s1, .ref s2, .ref s3]))] sz) (fun (u : Unit) => [])) (va_A [(h0, .inr (10, [.int 0, .long 0, .long 1, .ref t0, .ref a2, .ref s0, .ref a4, .int 0, .ref a5, .ref a6, .ref a7, .ref a8, .ref a9, .ref a10, .int 0])), (s0, .inr (4, [.int 0, .int 0, .int 0, .int 0, .ref s1, .ref s2, .ref s3]))] sz)) 0 0 (va_A [(h0, .inr (10, [.int 0, .long 0, .long 1, .ref t0, .ref a2, .ref s0, .ref a4, .int 0, .ref a5, .ref a6, .ref a7, .ref a8, .ref a9, .ref a10, .int 0])), (s0, .inr (4, [.int 0, .int 0, .int 0, .int 0, .ref s1, .ref s2, .ref s3]))] sz) := by
  refine jy_met (cc := cX11_automaton) (maxL := 4) (ret := (some .int)) (lv := [(0, .ref h0), (1, .int i1), (2, .int i2)]) (by decide) rfl (Nat.le_of_ble_eq_true rfl) rfl ?_
  intro p e s m below meth c F hr hlk hnm hN hA
  have hiX11 : ∀ w ∈ u_ws RX11 TX11 15, w ∈ ws_c_X11_automaton := fun w hw => List.mem_cons_of_mem _ (List.mem_append_left _ (List.mem_append_right _ hw))
  have hiX5 : ∀ w ∈ u_ws RX5 TX5 7, w ∈ ws_c_X11_automaton := fun w hw => List.mem_cons_of_mem _ (List.mem_append_right _ hw)
  refine jy_aload_n (pc' := 1) F 0 dX11_automaton_0 rfl rfl rfl ?_
  refine jy_get (pc' := 4) (C := RX11) (T := TX11) (N := 15) (ci := 10) (v := .ref s0) F hiX11 0 rfl rfl 5 (by decide) dX11_automaton_1 (List.mem_of_getElem? (i := 1) rfl) rfl rfl ?_
  refine jy_iload_n (pc' := 5) F 1 dX11_automaton_4 rfl rfl rfl ?_
  refine jy_callSi (pc' := 8) (jy_runV (As := [.int i1]) (b := s0) (q0 := 1) (ci := 4) (C := RX5) (T := TX5) (N := 7) (st := []) F hN (fun sz => c_X5_has l D k s0 s1 s2 s3 i1 sz ) (jy_cV F g_c_X11_automaton_c_X5_has rfl hdX5_has (List.mem_of_getElem? (i := 4) rfl) (List.mem_of_getElem? (i := 7) rfl) (List.mem_of_getElem? (i := 5) rfl) (List.mem_of_getElem? (i := 6) rfl) rfl rfl ⟨by decide, by decide⟩) rfl rfl [1] rfl (by decide) rfl rfl (Nat.le_of_ble_eq_true rfl) dX11_automaton_5 ⟨by decide, by decide⟩) rfl (fun r_1 e_2 => ?_)
  subst e_2
  refine jy_if_ne (pc' := 11) (tgt := 17) F dX11_automaton_8 (by decide) rfl (fun h => absurd h (by decide)) (fun _ => ?_)
  refine jy_aload_n (pc' := 12) F 0 dX11_automaton_11 rfl rfl rfl ?_
  refine jy_iconst (pc' := 13) (v := 1) F dX11_automaton_12 (by decide) rfl ?_
  refine jy_calli (pc' := 16) (cells' := 0) (slots' := 0) (wr := [(s0, .inr (4, [.int 0, .int 0, .int 0, .int 0, .ref s1, .ref s2, .ref s3]))]) hA [0] [1] rfl rfl (by decide) (by decide) (jy_runV (As := [.int 1]) (b := h0) (q0 := 0) (ci := 10) (C := RX11) (T := TX11) (N := 15) (st := []) F hN (fun sz => c_X11_refuse l D k h0 0 (.long 0) (.long 1) (.ref t0) (.ref a2) (.ref s0) (.ref a4) (.int 0) (.ref a5) (.ref a6) (.ref a7) (.ref a8) (.ref a9) (.ref a10) (.int 0) 1 sz ) (jy_cV F g_c_X11_automaton_c_X11_refuse rfl hdX11_refuse (List.mem_of_getElem? (i := 10) rfl) (List.mem_of_getElem? (i := 13) rfl) (List.mem_of_getElem? (i := 11) rfl) (List.mem_of_getElem? (i := 12) rfl) rfl rfl ⟨by decide, by decide⟩) rfl rfl [0] rfl (by decide) rfl rfl (Nat.le_of_ble_eq_true rfl) dX11_automaton_13 ⟨by decide, by decide⟩) rfl rfl rfl (fun r_6 u_4 e_5 => ?_)
  subst e_5
  refine jy_widen (cells' := 0) (slots' := 0) (by decide) (by decide) ?_
  exact jy_iret (v := (-1)) F hr hlk () (rfl) [] rfl (by decide) dX11_automaton_16
abbrev cX11_rule : ByteArray := prog_1_method_14_code
def yX11_rule : MethodName := ⟨RX11, "rule", "(III)I"⟩
theorem hdX11_rule : yX11_rule.cls ≠ "java/lang/invoke/MethodHandle" ∧ yX11_rule.cls ≠ "java/lang/invoke/VarHandle" ∧ (parseMethodDescriptor yX11_rule.desc).map (fun d => d.parameters.length) = some 3 := by decide +kernel
theorem dX11_rule_0 : decode cX11_rule 0 = .ok (.aload_n 0, 1) := by decide +kernel
theorem dX11_rule_1 : decode cX11_rule 1 = .ok (.getfield 26, 3) := by decide +kernel
theorem dX11_rule_4 : decode cX11_rule 4 = .ok (.iload_n 1, 1) := by decide +kernel
theorem dX11_rule_5 : decode cX11_rule 5 = .ok (.invokevirtual 163, 3) := by decide +kernel
theorem dX11_rule_8 : decode cX11_rule 8 = .ok (.ifCond .eq 18, 3) := by decide +kernel
theorem dX11_rule_26 : decode cX11_rule 26 = .ok (.aload_n 0, 1) := by decide +kernel
theorem dX11_rule_27 : decode cX11_rule 27 = .ok (.iconst 1, 1) := by decide +kernel
theorem dX11_rule_28 : decode cX11_rule 28 = .ok (.invokevirtual 110, 3) := by decide +kernel
theorem dX11_rule_31 : decode cX11_rule 31 = .ok (.ireturn, 1) := by decide +kernel
def ws_c_X11_rule : List Cond := .code yX11_rule cX11_rule 5 (some .int) :: ([.fieldLink "NestedChecker" 26 "NestedChecker" "live" "LNestedChecker$Setting;", .code ⟨"NestedChecker$Setting", "has", "(I)Z"⟩ cX5_has 2 (some .boolean), .fieldLink "NestedChecker$Setting" 38 "NestedChecker$Setting" "automata" "I", .initialized "NestedChecker$Setting", .instanceMethod ⟨"NestedChecker$Setting", "has", "(I)Z"⟩, .selects "NestedChecker$Setting" ⟨"NestedChecker$Setting", "has", "(I)Z"⟩ ⟨"NestedChecker$Setting", "has", "(I)Z"⟩, .methodLink "NestedChecker" 163 ⟨"NestedChecker$Setting", "has", "(I)Z"⟩, .code ⟨"NestedChecker", "refuse", "(I)I"⟩ cX11_refuse 2 (some .int), .fieldLink "NestedChecker" 72 "NestedChecker" "lastStatus" "I", .initialized "NestedChecker", .instanceMethod ⟨"NestedChecker", "refuse", "(I)I"⟩, .selects "NestedChecker" ⟨"NestedChecker", "refuse", "(I)I"⟩ ⟨"NestedChecker", "refuse", "(I)I"⟩, .methodLink "NestedChecker" 110 ⟨"NestedChecker", "refuse", "(I)I"⟩] ++ wsX110 ++ wsX50)
set_option maxRecDepth 20000 in
theorem g_c_X11_rule_c_X5_has : GoodIn ws_c_X11_rule ws_c_X5_has := goodIn_r _ [2, 3, 29, 30, 31, 32, 33, 34, 35] (by decide +kernel) (by decide +kernel)
set_option maxRecDepth 20000 in
theorem g_c_X11_rule_c_X11_refuse : GoodIn ws_c_X11_rule ws_c_X11_refuse := goodIn_r _ [8, 9, 14, 15, 16, 17, 18, 19, 20, 21, 22, 23, 24, 25, 26, 27, 28] (by decide +kernel) (by decide +kernel)
set_option maxHeartbeats 4000000 in
set_option maxRecDepth 100000 in
theorem c_X11_rule (l : Launch) (D : va_G) (k : jK) (h0 : Nat) (a2 : Nat) (a4 : Nat) (a5 : Nat) (a6 : Nat) (a7 : Nat) (a8 : Nat) (a9 : Nat) (a10 : Nat) (t0 : Nat) (s0 : Nat) (s1 : Nat) (s2 : Nat) (s3 : Nat) (i1 : Int32) (i2 : Int32) (i3 : Int32) (sz : Nat)  : Met l yX11_rule ws_c_X11_rule ({ frames := 1, cells := 0, slots := 0, locals := 21 }) (jy_P [.ref h0, .int i1, .int i2, .int i3] D vwCl (jT k) jW [(h0, .inr (10, [.int 0, .long 0, .long 1, .ref t0, .ref a2, .ref s0, .ref a4, .int 0, .ref a5, .ref a6, .ref a7, .ref a8, .ref a9, .ref a10, .int 0])), (s0, .inr (4, [.int 0, .int 0, .int 0, .int 0, .ref s1, .ref s2, .ref s3]))] sz) (va_Qi (fun (r : Int32) (u : Unit) => r = -1) (jy_B D vwCl (va_A [(h0, .inr (10, [.int 0, .long 0, .long 1, .ref t0, .ref a2, .ref s0, .ref a4, .int 0, .ref a5, .ref a6, .ref a7, .ref a8, .ref a9, .ref a10, .int 0])), (s0, .inr (4, [.int 0, .int 0, .int 0, .int 0, .ref s1, .ref s2, .ref s3]))] sz) (fun (u : Unit) => [])) (va_A [(h0, .inr (10, [.int 0, .long 0, .long 1, .ref t0, .ref a2, .ref s0, .ref a4, .int 0, .ref a5, .ref a6, .ref a7, .ref a8, .ref a9, .ref a10, .int 0])), (s0, .inr (4, [.int 0, .int 0, .int 0, .int 0, .ref s1, .ref s2, .ref s3]))] sz)) 0 0 (va_A [(h0, .inr (10, [.int 0, .long 0, .long 1, .ref t0, .ref a2, .ref s0, .ref a4, .int 0, .ref a5, .ref a6, .ref a7, .ref a8, .ref a9, .ref a10, .int 0])), (s0, .inr (4, [.int 0, .int 0, .int 0, .int 0, .ref s1, .ref s2, .ref s3]))] sz) := by
  refine jy_met (cc := cX11_rule) (maxL := 5) (ret := (some .int)) (lv := [(0, .ref h0), (1, .int i1), (2, .int i2), (3, .int i3)]) (by decide) rfl (Nat.le_of_ble_eq_true rfl) rfl ?_
  intro p e s m below meth c F hr hlk hnm hN hA
  have hiX11 : ∀ w ∈ u_ws RX11 TX11 15, w ∈ ws_c_X11_rule := fun w hw => List.mem_cons_of_mem _ (List.mem_append_left _ (List.mem_append_right _ hw))
  have hiX5 : ∀ w ∈ u_ws RX5 TX5 7, w ∈ ws_c_X11_rule := fun w hw => List.mem_cons_of_mem _ (List.mem_append_right _ hw)
  refine jy_aload_n (pc' := 1) F 0 dX11_rule_0 rfl rfl rfl ?_
  refine jy_get (pc' := 4) (C := RX11) (T := TX11) (N := 15) (ci := 10) (v := .ref s0) F hiX11 0 rfl rfl 5 (by decide) dX11_rule_1 (List.mem_of_getElem? (i := 1) rfl) rfl rfl ?_
  refine jy_iload_n (pc' := 5) F 1 dX11_rule_4 rfl rfl rfl ?_
  refine jy_callSi (pc' := 8) (jy_runV (As := [.int i1]) (b := s0) (q0 := 1) (ci := 4) (C := RX5) (T := TX5) (N := 7) (st := []) F hN (fun sz => c_X5_has l D k s0 s1 s2 s3 i1 sz ) (jy_cV F g_c_X11_rule_c_X5_has rfl hdX5_has (List.mem_of_getElem? (i := 4) rfl) (List.mem_of_getElem? (i := 7) rfl) (List.mem_of_getElem? (i := 5) rfl) (List.mem_of_getElem? (i := 6) rfl) rfl rfl ⟨by decide, by decide⟩) rfl rfl [1] rfl (by decide) rfl rfl (Nat.le_of_ble_eq_true rfl) dX11_rule_5 ⟨by decide, by decide⟩) rfl (fun r_1 e_2 => ?_)
  subst e_2
  refine jy_if_eq (pc' := 11) (tgt := 26) F dX11_rule_8 (by decide) rfl (fun _ => ?_) (fun h => absurd h (by decide))
  refine jy_aload_n (pc' := 27) F 0 dX11_rule_26 rfl rfl rfl ?_
  refine jy_iconst (pc' := 28) (v := 1) F dX11_rule_27 (by decide) rfl ?_
  refine jy_calli (pc' := 31) (cells' := 0) (slots' := 0) (wr := [(s0, .inr (4, [.int 0, .int 0, .int 0, .int 0, .ref s1, .ref s2, .ref s3]))]) hA [0] [1] rfl rfl (by decide) (by decide) (jy_runV (As := [.int 1]) (b := h0) (q0 := 0) (ci := 10) (C := RX11) (T := TX11) (N := 15) (st := []) F hN (fun sz => c_X11_refuse l D k h0 0 (.long 0) (.long 1) (.ref t0) (.ref a2) (.ref s0) (.ref a4) (.int 0) (.ref a5) (.ref a6) (.ref a7) (.ref a8) (.ref a9) (.ref a10) (.int 0) 1 sz ) (jy_cV F g_c_X11_rule_c_X11_refuse rfl hdX11_refuse (List.mem_of_getElem? (i := 10) rfl) (List.mem_of_getElem? (i := 13) rfl) (List.mem_of_getElem? (i := 11) rfl) (List.mem_of_getElem? (i := 12) rfl) rfl rfl ⟨by decide, by decide⟩) rfl rfl [0] rfl (by decide) rfl rfl (Nat.le_of_ble_eq_true rfl) dX11_rule_28 ⟨by decide, by decide⟩) rfl rfl rfl (fun r_6 u_4 e_5 => ?_)
  subst e_5
  refine jy_widen (cells' := 0) (slots' := 0) (by decide) (by decide) ?_
  exact jy_iret (v := (-1)) F hr hlk () (rfl) [] rfl (by decide) dX11_rule_31
abbrev cX11_add : ByteArray := prog_1_method_15_code
def yX11_add : MethodName := ⟨RX11, "add", "(IIIII)I"⟩
theorem hdX11_add : yX11_add.cls ≠ "java/lang/invoke/MethodHandle" ∧ yX11_add.cls ≠ "java/lang/invoke/VarHandle" ∧ (parseMethodDescriptor yX11_add.desc).map (fun d => d.parameters.length) = some 5 := by decide +kernel
theorem dX11_add_0 : decode cX11_add 0 = .ok (.aload_n 0, 1) := by decide +kernel
theorem dX11_add_1 : decode cX11_add 1 = .ok (.getfield 26, 3) := by decide +kernel
theorem dX11_add_4 : decode cX11_add 4 = .ok (.iload_n 1, 1) := by decide +kernel
theorem dX11_add_5 : decode cX11_add 5 = .ok (.invokevirtual 163, 3) := by decide +kernel
theorem dX11_add_8 : decode cX11_add 8 = .ok (.ifCond .eq 27, 3) := by decide +kernel
theorem dX11_add_35 : decode cX11_add 35 = .ok (.aload_n 0, 1) := by decide +kernel
theorem dX11_add_36 : decode cX11_add 36 = .ok (.iconst 1, 1) := by decide +kernel
theorem dX11_add_37 : decode cX11_add 37 = .ok (.invokevirtual 110, 3) := by decide +kernel
theorem dX11_add_40 : decode cX11_add 40 = .ok (.ireturn, 1) := by decide +kernel
def ws_c_X11_add : List Cond := .code yX11_add cX11_add 7 (some .int) :: ([.fieldLink "NestedChecker" 26 "NestedChecker" "live" "LNestedChecker$Setting;", .code ⟨"NestedChecker$Setting", "has", "(I)Z"⟩ cX5_has 2 (some .boolean), .fieldLink "NestedChecker$Setting" 38 "NestedChecker$Setting" "automata" "I", .initialized "NestedChecker$Setting", .instanceMethod ⟨"NestedChecker$Setting", "has", "(I)Z"⟩, .selects "NestedChecker$Setting" ⟨"NestedChecker$Setting", "has", "(I)Z"⟩ ⟨"NestedChecker$Setting", "has", "(I)Z"⟩, .methodLink "NestedChecker" 163 ⟨"NestedChecker$Setting", "has", "(I)Z"⟩, .code ⟨"NestedChecker", "refuse", "(I)I"⟩ cX11_refuse 2 (some .int), .fieldLink "NestedChecker" 72 "NestedChecker" "lastStatus" "I", .initialized "NestedChecker", .instanceMethod ⟨"NestedChecker", "refuse", "(I)I"⟩, .selects "NestedChecker" ⟨"NestedChecker", "refuse", "(I)I"⟩ ⟨"NestedChecker", "refuse", "(I)I"⟩, .methodLink "NestedChecker" 110 ⟨"NestedChecker", "refuse", "(I)I"⟩] ++ wsX110 ++ wsX50)
set_option maxRecDepth 20000 in
theorem g_c_X11_add_c_X5_has : GoodIn ws_c_X11_add ws_c_X5_has := goodIn_r _ [2, 3, 29, 30, 31, 32, 33, 34, 35] (by decide +kernel) (by decide +kernel)
set_option maxRecDepth 20000 in
theorem g_c_X11_add_c_X11_refuse : GoodIn ws_c_X11_add ws_c_X11_refuse := goodIn_r _ [8, 9, 14, 15, 16, 17, 18, 19, 20, 21, 22, 23, 24, 25, 26, 27, 28] (by decide +kernel) (by decide +kernel)
set_option maxHeartbeats 4000000 in
set_option maxRecDepth 100000 in
theorem c_X11_add (l : Launch) (D : va_G) (k : jK) (h0 : Nat) (a2 : Nat) (a4 : Nat) (a5 : Nat) (a6 : Nat) (a7 : Nat) (a8 : Nat) (a9 : Nat) (a10 : Nat) (t0 : Nat) (s0 : Nat) (s1 : Nat) (s2 : Nat) (s3 : Nat) (i1 : Int32) (i2 : Int32) (i3 : Int32) (i4 : Int32) (i5 : Int32) (sz : Nat)  : Met l yX11_add ws_c_X11_add ({ frames := 1, cells := 0, slots := 0, locals := 21 }) (jy_P [.ref h0, .int i1, .int i2, .int i3, .int i4, .int i5] D vwCl (jT k) jW [(h0, .inr (10, [.int 0, .long 0, .long 1, .ref t0, .ref a2, .ref s0, .ref a4, .int 0, .ref a5, .ref a6, .ref a7, .ref a8, .ref a9, .ref a10, .int 0])), (s0, .inr (4, [.int 0, .int 0, .int 0, .int 0, .ref s1, .ref s2, .ref s3]))] sz) (va_Qi (fun (r : Int32) (u : Unit) => r = -1) (jy_B D vwCl (va_A [(h0, .inr (10, [.int 0, .long 0, .long 1, .ref t0, .ref a2, .ref s0, .ref a4, .int 0, .ref a5, .ref a6, .ref a7, .ref a8, .ref a9, .ref a10, .int 0])), (s0, .inr (4, [.int 0, .int 0, .int 0, .int 0, .ref s1, .ref s2, .ref s3]))] sz) (fun (u : Unit) => [])) (va_A [(h0, .inr (10, [.int 0, .long 0, .long 1, .ref t0, .ref a2, .ref s0, .ref a4, .int 0, .ref a5, .ref a6, .ref a7, .ref a8, .ref a9, .ref a10, .int 0])), (s0, .inr (4, [.int 0, .int 0, .int 0, .int 0, .ref s1, .ref s2, .ref s3]))] sz)) 0 0 (va_A [(h0, .inr (10, [.int 0, .long 0, .long 1, .ref t0, .ref a2, .ref s0, .ref a4, .int 0, .ref a5, .ref a6, .ref a7, .ref a8, .ref a9, .ref a10, .int 0])), (s0, .inr (4, [.int 0, .int 0, .int 0, .int 0, .ref s1, .ref s2, .ref s3]))] sz) := by
  refine jy_met (cc := cX11_add) (maxL := 7) (ret := (some .int)) (lv := [(0, .ref h0), (1, .int i1), (2, .int i2), (3, .int i3), (4, .int i4), (5, .int i5)]) (by decide) rfl (Nat.le_of_ble_eq_true rfl) rfl ?_
  intro p e s m below meth c F hr hlk hnm hN hA
  have hiX11 : ∀ w ∈ u_ws RX11 TX11 15, w ∈ ws_c_X11_add := fun w hw => List.mem_cons_of_mem _ (List.mem_append_left _ (List.mem_append_right _ hw))
  have hiX5 : ∀ w ∈ u_ws RX5 TX5 7, w ∈ ws_c_X11_add := fun w hw => List.mem_cons_of_mem _ (List.mem_append_right _ hw)
  refine jy_aload_n (pc' := 1) F 0 dX11_add_0 rfl rfl rfl ?_
  refine jy_get (pc' := 4) (C := RX11) (T := TX11) (N := 15) (ci := 10) (v := .ref s0) F hiX11 0 rfl rfl 5 (by decide) dX11_add_1 (List.mem_of_getElem? (i := 1) rfl) rfl rfl ?_
  refine jy_iload_n (pc' := 5) F 1 dX11_add_4 rfl rfl rfl ?_
  refine jy_callSi (pc' := 8) (jy_runV (As := [.int i1]) (b := s0) (q0 := 1) (ci := 4) (C := RX5) (T := TX5) (N := 7) (st := []) F hN (fun sz => c_X5_has l D k s0 s1 s2 s3 i1 sz ) (jy_cV F g_c_X11_add_c_X5_has rfl hdX5_has (List.mem_of_getElem? (i := 4) rfl) (List.mem_of_getElem? (i := 7) rfl) (List.mem_of_getElem? (i := 5) rfl) (List.mem_of_getElem? (i := 6) rfl) rfl rfl ⟨by decide, by decide⟩) rfl rfl [1] rfl (by decide) rfl rfl (Nat.le_of_ble_eq_true rfl) dX11_add_5 ⟨by decide, by decide⟩) rfl (fun r_1 e_2 => ?_)
  subst e_2
  refine jy_if_eq (pc' := 11) (tgt := 35) F dX11_add_8 (by decide) rfl (fun _ => ?_) (fun h => absurd h (by decide))
  refine jy_aload_n (pc' := 36) F 0 dX11_add_35 rfl rfl rfl ?_
  refine jy_iconst (pc' := 37) (v := 1) F dX11_add_36 (by decide) rfl ?_
  refine jy_calli (pc' := 40) (cells' := 0) (slots' := 0) (wr := [(s0, .inr (4, [.int 0, .int 0, .int 0, .int 0, .ref s1, .ref s2, .ref s3]))]) hA [0] [1] rfl rfl (by decide) (by decide) (jy_runV (As := [.int 1]) (b := h0) (q0 := 0) (ci := 10) (C := RX11) (T := TX11) (N := 15) (st := []) F hN (fun sz => c_X11_refuse l D k h0 0 (.long 0) (.long 1) (.ref t0) (.ref a2) (.ref s0) (.ref a4) (.int 0) (.ref a5) (.ref a6) (.ref a7) (.ref a8) (.ref a9) (.ref a10) (.int 0) 1 sz ) (jy_cV F g_c_X11_add_c_X11_refuse rfl hdX11_refuse (List.mem_of_getElem? (i := 10) rfl) (List.mem_of_getElem? (i := 13) rfl) (List.mem_of_getElem? (i := 11) rfl) (List.mem_of_getElem? (i := 12) rfl) rfl rfl ⟨by decide, by decide⟩) rfl rfl [0] rfl (by decide) rfl rfl (Nat.le_of_ble_eq_true rfl) dX11_add_37 ⟨by decide, by decide⟩) rfl rfl rfl (fun r_6 u_4 e_5 => ?_)
  subst e_5
  refine jy_widen (cells' := 0) (slots' := 0) (by decide) (by decide) ?_
  exact jy_iret (v := (-1)) F hr hlk () (rfl) [] rfl (by decide) dX11_add_40
