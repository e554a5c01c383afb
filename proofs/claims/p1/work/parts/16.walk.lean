def ws_c_X12_is_6 : List Cond := .code yX12_is cX12_is 2 (some .boolean) :: ([.fieldLink "NestedCheckerModel" 117 "NestedCheckerModel" "status" "I"] ++ wsX120)
set_option maxHeartbeats 4000000 in
set_option maxRecDepth 100000 in
theorem c_X12_is_6 (l : Launch) (D : va_G) (k : jK) (m0 : Nat) (x0 : Int32) (z0 : Value) (z1 : Value) (z2 : Value) (z3 : Value) (z4 : Value) (z5 : Value) (z6 : Value) (z7 : Value) (z8 : Value) (z9 : Value) (z10 : Value) (z11 : Value) (z12 : Value) (z13 : Value) (z14 : Value) (z15 : Value) (z16 : Value) (z17 : Value) (z18 : Value) (z19 : Value) (z20 : Value) (z21 : Value) (z22 : Value) (z23 : Value) (z24 : Value) (z25 : Value) (z26 : Value) (z27 : Value) (z28 : Value) (z29 : Value) (z30 : Value) (z31 : Value) (z32 : Value) (z33 : Value) (z34 : Value) (z35 : Value) (z36 : Value) (z37 : Value) (z38 : Value) (z39 : Value) (z40 : Value) (z41 : Value) (z42 : Value) (z43 : Value) (z44 : Value) (z45 : Value) (z46 : Value) (z47 : Value) (z48 : Value) (z49 : Value) (sz : Nat)  : Met l yX12_is ws_c_X12_is_6 ({ frames := 0, cells := 0, slots := 0, locals := 0 }) (jy_P [.ref m0, .int 6] D vwCl (jT k) jW [(m0, .inr (11, [z0, z1, .int x0, z2, z3, z4, z5, z6, z7, z8, z9, z10, z11, z12, z13, z14, z15, z16, z17, z18, z19, z20, z21, z22, z23, z24, z25, z26, z27, z28, z29, z30, z31, z32, z33, z34, z35, z36, z37, z38, z39, z40, z41, z42, z43, z44, z45, z46, z47, z48, z49]))] sz) (va_Qi (fun (r : Int32) (u : Unit) => r = 0) (jy_B D vwCl (va_A [(m0, .inr (11, [z0, z1, .int x0, z2, z3, z4, z5, z6, z7, z8, z9, z10, z11, z12, z13, z14, z15, z16, z17, z18, z19, z20, z21, z22, z23, z24, z25, z26, z27, z28, z29, z30, z31, z32, z33, z34, z35, z36, z37, z38, z39, z40, z41, z42, z43, z44, z45, z46, z47, z48, z49]))] sz) (fun (u : Unit) => [(m0, .inr (11, [z0, z1, .int 6, z2, z3, z4, z5, z6, z7, z8, z9, z10, z11, z12, z13, z14, z15, z16, z17, z18, z19, z20, z21, z22, z23, z24, z25, z26, z27, z28, z29, z30, z31, z32, z33, z34, z35, z36, z37, z38, z39, z40, z41, z42, z43, z44, z45, z46, z47, z48, z49]))])) (va_A [(m0, .inr (11, [z0, z1, .int x0, z2, z3, z4, z5, z6, z7, z8, z9, z10, z11, z12, z13, z14, z15, z16, z17, z18, z19, z20, z21, z22, z23, z24, z25, z26, z27, z28, z29, z30, z31, z32, z33, z34, z35, z36, z37, z38, z39, z40, z41, z42, z43, z44, z45, z46, z47, z48, z49]))] sz)) 0 0 (va_A [(m0, .inr (11, [z0, z1, .int x0, z2, z3, z4, z5, z6, z7, z8, z9, z10, z11, z12, z13, z14, z15, z16, z17, z18, z19, z20, z21, z22, z23, z24, z25, z26, z27, z28, z29, z30, z31, z32, z33, z34, z35, z36, z37, z38, z39, z40, z41, z42, z43, z44, z45, z46, z47, z48, z49]))] sz) := by
  refine jy_met (cc := cX12_is) (maxL := 2) (ret := (some .boolean)) (lv := [(0, .ref m0), (1, .int 6)]) (by decide) rfl (Nat.le_of_ble_eq_true rfl) rfl ?_
  intro p e s m below meth c F hr hlk hnm hN hA
  have hiX12 : ∀ w ∈ u_ws RX12 TX12 51, w ∈ ws_c_X12_is_6 := fun w hw => List.mem_cons_of_mem _ (List.mem_append_right _ hw)
  refine jy_aload_n (pc' := 1) F 0 dX12_is_0 rfl rfl rfl ?_
  refine jy_iload_n (pc' := 2) F 1 dX12_is_1 rfl rfl rfl ?_
  refine jy_put (pc' := 5) (C := RX12) (T := TX12) (N := 51) (ci := 11) (ws' := [(m0, .inr (11, [z0, z1, .int 6, z2, z3, z4, z5, z6, z7, z8, z9, z10, z11, z12, z13, z14, z15, z16, z17, z18, z19, z20, z21, z22, z23, z24, z25, z26, z27, z28, z29, z30, z31, z32, z33, z34, z35, z36, z37, z38, z39, z40, z41, z42, z43, z44, z45, z46, z47, z48, z49]))]) F hiX12 tyX12 tyX12_ok nmX12 0 rfl rfl 2 (by decide) dX12_is_2 (List.mem_of_getElem? (i := 1) rfl) rfl rfl rfl rfl (Nat.le_of_ble_eq_true rfl) rfl rfl ?_
  refine jy_iload_n (pc' := 6) F 1 dX12_is_5 rfl rfl rfl ?_
  refine jy_if_ne (pc' := 9) (tgt := 13) F dX12_is_6 (by decide) rfl (fun _ => ?_) (fun h => absurd h (by decide))
  refine jy_iconst (pc' := 14) (v := 0) F dX12_is_13 (by decide) rfl ?_
  refine jy_widen (cells' := 0) (slots' := 0) (by decide) (by decide) ?_
  exact jy_zret (v := 0) F hr hlk (by first | rfl | decide) () (rfl) [0] rfl (by decide) dX12_is_14
def ws_c_X12_is_8 : List Cond := .code yX12_is cX12_is 2 (some .boolean) :: ([.fieldLink "NestedCheckerModel" 117 "NestedCheckerModel" "status" "I"] ++ wsX120)
set_option maxHeartbeats 4000000 in
set_option maxRecDepth 100000 in
theorem c_X12_is_8 (l : Launch) (D : va_G) (k : jK) (m0 : Nat) (x0 : Int32) (z0 : Value) (z1 : Value) (z2 : Value) (z3 : Value) (z4 : Value) (z5 : Value) (z6 : Value) (z7 : Value) (z8 : Value) (z9 : Value) (z10 : Value) (z11 : Value) (z12 : Value) (z13 : Value) (z14 : Value) (z15 : Value) (z16 : Value) (z17 : Value) (z18 : Value) (z19 : Value) (z20 : Value) (z21 : Value) (z22 : Value) (z23 : Value) (z24 : Value) (z25 : Value) (z26 : Value) (z27 : Value) (z28 : Value) (z29 : Value) (z30 : Value) (z31 : Value) (z32 : Value) (z33 : Value) (z34 : Value) (z35 : Value) (z36 : Value) (z37 : Value) (z38 : Value) (z39 : Value) (z40 : Value) (z41 : Value) (z42 : Value) (z43 : Value) (z44 : Value) (z45 : Value) (z46 : Value) (z47 : Value) (z48 : Value) (z49 : Value) (sz : Nat)  : Met l yX12_is ws_c_X12_is_8 ({ frames := 0, cells := 0, slots := 0, locals := 0 }) (jy_P [.ref m0, .int 8] D vwCl (jT k) jW [(m0, .inr (11, [z0, z1, .int x0, z2, z3, z4, z5, z6, z7, z8, z9, z10, z11, z12, z13, z14, z15, z16, z17, z18, z19, z20, z21, z22, z23, z24, z25, z26, z27, z28, z29, z30, z31, z32, z33, z34, z35, z36, z37, z38, z39, z40, z41, z42, z43, z44, z45, z46, z47, z48, z49]))] sz) (va_Qi (fun (r : Int32) (u : Unit) => r = 0) (jy_B D vwCl (va_A [(m0, .inr (11, [z0, z1, .int x0, z2, z3, z4, z5, z6, z7, z8, z9, z10, z11, z12, z13, z14, z15, z16, z17, z18, z19, z20, z21, z22, z23, z24, z25, z26, z27, z28, z29, z30, z31, z32, z33, z34, z35, z36, z37, z38, z39, z40, z41, z42, z43, z44, z45, z46, z47, z48, z49]))] sz) (fun (u : Unit) => [(m0, .inr (11, [z0, z1, .int 8, z2, z3, z4, z5, z6, z7, z8, z9, z10, z11, z12, z13, z14, z15, z16, z17, z18, z19, z20, z21, z22, z23, z24, z25, z26, z27, z28, z29, z30, z31, z32, z33, z34, z35, z36, z37, z38, z39, z40, z41, z42, z43, z44, z45, z46, z47, z48, z49]))])) (va_A [(m0, .inr (11, [z0, z1, .int x0, z2, z3, z4, z5, z6, z7, z8, z9, z10, z11, z12, z13, z14, z15, z16, z17, z18, z19, z20, z21, z22, z23, z24, z25, z26, z27, z28, z29, z30, z31, z32, z33, z34, z35, z36, z37, z38, z39, z40, z41, z42, z43, z44, z45, z46, z47, z48, z49]))] sz)) 0 0 (va_A [(m0, .inr (11, [z0, z1, .int x0, z2, z3, z4, z5, z6, z7, z8, z9, z10, z11, z12, z13, z14, z15, z16, z17, z18, z19, z20, z21, z22, z23, z24, z25, z26, z27, z28, z29, z30, z31, z32, z33, z34, z35, z36, z37, z38, z39, z40, z41, z42, z43, z44, z45, z46, z47, z48, z49]))] sz) := by
  refine jy_met (cc := cX12_is) (maxL := 2) (ret := (some .boolean)) (lv := [(0, .ref m0), (1, .int 8)]) (by decide) rfl (Nat.le_of_ble_eq_true rfl) rfl ?_
  intro p e s m below meth c F hr hlk hnm hN hA
  have hiX12 : ∀ w ∈ u_ws RX12 TX12 51, w ∈ ws_c_X12_is_8 := fun w hw => List.mem_cons_of_mem _ (List.mem_append_right _ hw)
  refine jy_aload_n (pc' := 1) F 0 dX12_is_0 rfl rfl rfl ?_
  refine jy_iload_n (pc' := 2) F 1 dX12_is_1 rfl rfl rfl ?_
  refine jy_put (pc' := 5) (C := RX12) (T := TX12) (N := 51) (ci := 11) (ws' := [(m0, .inr (11, [z0, z1, .int 8, z2, z3, z4, z5, z6, z7, z8, z9, z10, z11, z12, z13, z14, z15, z16, z17, z18, z19, z20, z21, z22, z23, z24, z25, z26, z27, z28, z29, z30, z31, z32, z33, z34, z35, z36, z37, z38, z39, z40, z41, z42, z43, z44, z45, z46, z47, z48, z49]))]) F hiX12 tyX12 tyX12_ok nmX12 0 rfl rfl 2 (by decide) dX12_is_2 (List.mem_of_getElem? (i := 1) rfl) rfl rfl rfl rfl (Nat.le_of_ble_eq_true rfl) rfl rfl ?_
  refine jy_iload_n (pc' := 6) F 1 dX12_is_5 rfl rfl rfl ?_
  refine jy_if_ne (pc' := 9) (tgt := 13) F dX12_is_6 (by decide) rfl (fun _ => ?_) (fun h => absurd h (by decide))
  refine jy_iconst (pc' := 14) (v := 0) F dX12_is_13 (by decide) rfl ?_
  refine jy_widen (cells' := 0) (slots' := 0) (by decide) (by decide) ?_
  exact jy_zret (v := 0) F hr hlk (by first | rfl | decide) () (rfl) [0] rfl (by decide) dX12_is_14
abbrev cX12_isAutomaton : ByteArray := prog_14_method_50_code
def yX12_isAutomaton : MethodName := ⟨RX12, "isAutomaton", "(I)Z"⟩
theorem hdX12_isAutomaton : yX12_isAutomaton.cls ≠ "java/lang/invoke/MethodHandle" ∧ yX12_isAutomaton.cls ≠ "java/lang/invoke/VarHandle" ∧ (parseMethodDescriptor yX12_isAutomaton.desc).map (fun d => d.parameters.length) = some 1 := by decide +kernel
theorem dX12_isAutomaton_0 : decode cX12_isAutomaton 0 = .ok (.iload_n 1, 1) := by decide +kernel
theorem dX12_isAutomaton_1 : decode cX12_isAutomaton 1 = .ok (.ifCond .lt 17, 3) := by decide +kernel
theorem dX12_isAutomaton_4 : decode cX12_isAutomaton 4 = .ok (.iload_n 1, 1) := by decide +kernel
theorem dX12_isAutomaton_5 : decode cX12_isAutomaton 5 = .ok (.aload_n 0, 1) := by decide +kernel
theorem dX12_isAutomaton_6 : decode cX12_isAutomaton 6 = .ok (.getfield 7, 3) := by decide +kernel
theorem dX12_isAutomaton_9 : decode cX12_isAutomaton 9 = .ok (.iconst 3, 1) := by decide +kernel
theorem dX12_isAutomaton_10 : decode cX12_isAutomaton 10 = .ok (.iaload, 1) := by decide +kernel
theorem dX12_isAutomaton_11 : decode cX12_isAutomaton 11 = .ok (.if_icmp .ge 7, 3) := by decide +kernel
theorem dX12_isAutomaton_18 : decode cX12_isAutomaton 18 = .ok (.iconst 0, 1) := by decide +kernel
theorem dX12_isAutomaton_19 : decode cX12_isAutomaton 19 = .ok (.ireturn, 1) := by decide +kernel
def ws_c_X12_isAutomaton : List Cond := .code yX12_isAutomaton cX12_isAutomaton 2 (some .boolean) :: ([.fieldLink "NestedCheckerModel" 7 "NestedCheckerModel" "at" "[I"] ++ wsX120)
set_option maxHeartbeats 4000000 in
set_option maxRecDepth 100000 in
theorem c_X12_isAutomaton (l : Launch) (D : va_G) (k : jK) (m0 : Nat) (b1 : Nat) (b2 : Nat) (b3 : Nat) (b4 : Nat) (b5 : Nat) (b6 : Nat) (b7 : Nat) (w0 : Nat) (w1 : Nat) (w2 : Nat) (w3 : Nat) (w4 : Nat) (w5 : Nat) (w6 : Nat) (w7 : Nat) (w8 : Nat) (w9 : Nat) (w10 : Nat) (w11 : Nat) (w12 : Nat) (w13 : Nat) (w14 : Nat) (w15 : Nat) (w16 : Nat) (w17 : Nat) (w18 : Nat) (w19 : Nat) (w20 : Nat) (w21 : Nat) (w22 : Nat) (fa : Nat → Int32) (y : Int32) (sz : Nat) (ha : fa 4 = -1 ∧ ∀ j, j ≠ 4 → fa j = 0) : Met l yX12_isAutomaton ws_c_X12_isAutomaton ({ frames := 0, cells := 0, slots := 0, locals := 0 }) (jy_P [.ref m0, .int y] D vwCl (jT k) jW [(m0, .inr (11, [.ref b1, .ref b2, .int 0, .long 0, .long 1, .ref b3, .ref b4, .ref b5, .ref b6, .ref b7, .int 0, .int 0, .int 0, .int 0, .int 0, .int 0, .int (-1), .int (-1), .int 0, .int 0, .ref w0, .ref w1, .ref w2, .ref w3, .ref w4, .ref w5, .ref w6, .ref w7, .ref w8, .ref w9, .int 0, .int 0, .int 0, .ref w10, .ref w11, .int 0, .ref w12, .ref w13, .ref w14, .ref w15, .ref w16, .ref w17, .ref w18, .ref w19, .ref w20, .int 0, .ref w21, .ref w22, .int 0, .int 0, .int 0])), (b1, .inl (k.2.1, 1360, .inl fa))] sz) (vp_Si (fun (r : Int32) => r = 0)) 0 0 (fun _ => False) := by
  refine jy_metS (cc := cX12_isAutomaton) (maxL := 2) (ret := (some .boolean)) (lv := [(0, .ref m0), (1, .int y)]) (by decide) rfl (Nat.le_of_ble_eq_true rfl) rfl ?_
  intro p e s m below meth c F hr hlk hN
  have hiX12 : ∀ w ∈ u_ws RX12 TX12 51, w ∈ ws_c_X12_isAutomaton := fun w hw => List.mem_cons_of_mem _ (List.mem_append_right _ hw)
  refine jy_iload_n (pc' := 1) F 1 dX12_isAutomaton_0 rfl rfl rfl ?_
  refine jy_if_lt (pc' := 4) (tgt := 18) F dX12_isAutomaton_1 (by decide) rfl (fun h_1 => ?_) (fun h_1 => ?_)
  · refine jy_iconst (pc' := 19) (v := 0) F dX12_isAutomaton_18 (by decide) rfl ?_
    exact jy_zretS (v := 0) F hr hlk (by first | rfl | decide) (rfl) dX12_isAutomaton_19
  · refine jy_iload_n (pc' := 5) F 1 dX12_isAutomaton_4 rfl rfl rfl ?_
    refine jy_aload_n (pc' := 6) F 0 dX12_isAutomaton_5 rfl rfl rfl ?_
    refine jy_get (pc' := 9) (C := RX12) (T := TX12) (N := 51) (ci := 11) (v := .ref b1) F hiX12 0 rfl rfl 0 (by decide) dX12_isAutomaton_6 (List.mem_of_getElem? (i := 1) rfl) rfl rfl ?_
    refine jy_iconst (pc' := 10) (v := 3) F dX12_isAutomaton_9 (by decide) rfl ?_
    refine jy_iald (pc' := 11) (v := 0) F 1 1 rfl rfl dX12_isAutomaton_10 (vp_in_nI (n := 3) (by omega) (by omega)) (ha.2 _ (by decide)) rfl ?_
    refine jy_icmp_ge (pc' := 14) (tgt := 18) F dX12_isAutomaton_11 (by decide) rfl (fun _ => ?_) (fun h => absurd (Int32.not_lt.mp h_1) h)
    refine jy_iconst (pc' := 19) (v := 0) F dX12_isAutomaton_18 (by decide) rfl ?_
    exact jy_zretS (v := 0) F hr hlk (by first | rfl | decide) (rfl) dX12_isAutomaton_19
abbrev cX12_letters : ByteArray := prog_14_method_52_code
def yX12_letters : MethodName := ⟨RX12, "letters", "()I"⟩
theorem hdX12_letters : yX12_letters.cls ≠ "java/lang/invoke/MethodHandle" ∧ yX12_letters.cls ≠ "java/lang/invoke/VarHandle" ∧ (parseMethodDescriptor yX12_letters.desc).map (fun d => d.parameters.length) = some 0 := by decide +kernel
theorem dX12_letters_0 : decode cX12_letters 0 = .ok (.aload_n 0, 1) := by decide +kernel
theorem dX12_letters_1 : decode cX12_letters 1 = .ok (.getfield 7, 3) := by decide +kernel
theorem dX12_letters_4 : decode cX12_letters 4 = .ok (.iconst 0, 1) := by decide +kernel
theorem dX12_letters_5 : decode cX12_letters 5 = .ok (.iaload, 1) := by decide +kernel
theorem dX12_letters_6 : decode cX12_letters 6 = .ok (.aload_n 0, 1) := by decide +kernel
theorem dX12_letters_7 : decode cX12_letters 7 = .ok (.getfield 7, 3) := by decide +kernel
theorem dX12_letters_10 : decode cX12_letters 10 = .ok (.iconst 1, 1) := by decide +kernel
theorem dX12_letters_11 : decode cX12_letters 11 = .ok (.iaload, 1) := by decide +kernel
theorem dX12_letters_12 : decode cX12_letters 12 = .ok (.iadd, 1) := by decide +kernel
theorem dX12_letters_13 : decode cX12_letters 13 = .ok (.aload_n 0, 1) := by decide +kernel
theorem dX12_letters_14 : decode cX12_letters 14 = .ok (.getfield 7, 3) := by decide +kernel
theorem dX12_letters_17 : decode cX12_letters 17 = .ok (.iconst 2, 1) := by decide +kernel
theorem dX12_letters_18 : decode cX12_letters 18 = .ok (.iaload, 1) := by decide +kernel
theorem dX12_letters_19 : decode cX12_letters 19 = .ok (.iadd, 1) := by decide +kernel
theorem dX12_letters_20 : decode cX12_letters 20 = .ok (.ireturn, 1) := by decide +kernel
def ws_c_X12_letters : List Cond := .code yX12_letters cX12_letters 1 (some .int) :: ([.fieldLink "NestedCheckerModel" 7 "NestedCheckerModel" "at" "[I"] ++ wsX120)
set_option maxHeartbeats 4000000 in
set_option maxRecDepth 100000 in
theorem c_X12_letters (l : Launch) (D : va_G) (k : jK) (m0 : Nat) (b1 : Nat) (b2 : Nat) (b3 : Nat) (b4 : Nat) (b5 : Nat) (b6 : Nat) (b7 : Nat) (w0 : Nat) (w1 : Nat) (w2 : Nat) (w3 : Nat) (w4 : Nat) (w5 : Nat) (w6 : Nat) (w7 : Nat) (w8 : Nat) (w9 : Nat) (w10 : Nat) (w11 : Nat) (w12 : Nat) (w13 : Nat) (w14 : Nat) (w15 : Nat) (w16 : Nat) (w17 : Nat) (w18 : Nat) (w19 : Nat) (w20 : Nat) (w21 : Nat) (w22 : Nat) (fa : Nat → Int32) (sz : Nat) (ha : fa 4 = -1 ∧ ∀ j, j ≠ 4 → fa j = 0) : Met l yX12_letters ws_c_X12_letters ({ frames := 0, cells := 0, slots := 0, locals := 0 }) (jy_P [.ref m0] D vwCl (jT k) jW [(m0, .inr (11, [.ref b1, .ref b2, .int 0, .long 0, .long 1, .ref b3, .ref b4, .ref b5, .ref b6, .ref b7, .int 0, .int 0, .int 0, .int 0, .int 0, .int 0, .int (-1), .int (-1), .int 0, .int 0, .ref w0, .ref w1, .ref w2, .ref w3, .ref w4, .ref w5, .ref w6, .ref w7, .ref w8, .ref w9, .int 0, .int 0, .int 0, .ref w10, .ref w11, .int 0, .ref w12, .ref w13, .ref w14, .ref w15, .ref w16, .ref w17, .ref w18, .ref w19, .ref w20, .int 0, .ref w21, .ref w22, .int 0, .int 0, .int 0])), (b1, .inl (k.2.1, 1360, .inl fa))] sz) (vp_Si (fun (r : Int32) => r = 0)) 0 0 (fun _ => False) := by
  refine jy_metS (cc := cX12_letters) (maxL := 1) (ret := (some .int)) (lv := [(0, .ref m0)]) (by decide) rfl (Nat.le_of_ble_eq_true rfl) rfl ?_
  intro p e s m below meth c F hr hlk hN
  have hiX12 : ∀ w ∈ u_ws RX12 TX12 51, w ∈ ws_c_X12_letters := fun w hw => List.mem_cons_of_mem _ (List.mem_append_right _ hw)
  refine jy_aload_n (pc' := 1) F 0 dX12_letters_0 rfl rfl rfl ?_
  refine jy_get (pc' := 4) (C := RX12) (T := TX12) (N := 51) (ci := 11) (v := .ref b1) F hiX12 0 rfl rfl 0 (by decide) dX12_letters_1 (List.mem_of_getElem? (i := 1) rfl) rfl rfl ?_
  refine jy_iconst (pc' := 5) (v := 0) F dX12_letters_4 (by decide) rfl ?_
  refine jy_iald (pc' := 6) (v := 0) F 1 1 rfl rfl dX12_letters_5 (vp_in_nI (n := 0) (by omega) (by omega)) (ha.2 _ (by decide)) rfl ?_
  refine jy_aload_n (pc' := 7) F 0 dX12_letters_6 rfl rfl rfl ?_
  refine jy_get (pc' := 10) (C := RX12) (T := TX12) (N := 51) (ci := 11) (v := .ref b1) F hiX12 0 rfl rfl 0 (by decide) dX12_letters_7 (List.mem_of_getElem? (i := 1) rfl) rfl rfl ?_
  refine jy_iconst (pc' := 11) (v := 1) F dX12_letters_10 (by decide) rfl ?_
  refine jy_iald (pc' := 12) (v := 0) F 1 1 rfl rfl dX12_letters_11 (vp_in_nI (n := 1) (by omega) (by omega)) (ha.2 _ (by decide)) rfl ?_
  refine jy_iadd (pc' := 13) (v := 0) F dX12_letters_12 (by decide) rfl ?_
  refine jy_aload_n (pc' := 14) F 0 dX12_letters_13 rfl rfl rfl ?_
  refine jy_get (pc' := 17) (C := RX12) (T := TX12) (N := 51) (ci := 11) (v := .ref b1) F hiX12 0 rfl rfl 0 (by decide) dX12_letters_14 (List.mem_of_getElem? (i := 1) rfl) rfl rfl ?_
  refine jy_iconst (pc' := 18) (v := 2) F dX12_letters_17 (by decide) rfl ?_
  refine jy_iald (pc' := 19) (v := 0) F 1 1 rfl rfl dX12_letters_18 (vp_in_nI (n := 2) (by omega) (by omega)) (ha.2 _ (by decide)) rfl ?_
  refine jy_iadd (pc' := 20) (v := 0) F dX12_letters_19 (by decide) rfl ?_
  exact jy_iretS (v := 0) F hr hlk (rfl) dX12_letters_20
abbrev cX12_isLetter : ByteArray := prog_14_method_53_code
def yX12_isLetter : MethodName := ⟨RX12, "isLetter", "(I)Z"⟩
theorem hdX12_isLetter : yX12_isLetter.cls ≠ "java/lang/invoke/MethodHandle" ∧ yX12_isLetter.cls ≠ "java/lang/invoke/VarHandle" ∧ (parseMethodDescriptor yX12_isLetter.desc).map (fun d => d.parameters.length) = some 1 := by decide +kernel
theorem dX12_isLetter_0 : decode cX12_isLetter 0 = .ok (.iload_n 1, 1) := by decide +kernel
theorem dX12_isLetter_1 : decode cX12_isLetter 1 = .ok (.ifCond .lt 15, 3) := by decide +kernel
theorem dX12_isLetter_4 : decode cX12_isLetter 4 = .ok (.iload_n 1, 1) := by decide +kernel
theorem dX12_isLetter_5 : decode cX12_isLetter 5 = .ok (.aload_n 0, 1) := by decide +kernel
theorem dX12_isLetter_6 : decode cX12_isLetter 6 = .ok (.invokevirtual 285, 3) := by decide +kernel
theorem dX12_isLetter_9 : decode cX12_isLetter 9 = .ok (.if_icmp .ge 7, 3) := by decide +kernel
theorem dX12_isLetter_16 : decode cX12_isLetter 16 = .ok (.iconst 0, 1) := by decide +kernel
theorem dX12_isLetter_17 : decode cX12_isLetter 17 = .ok (.ireturn, 1) := by decide +kernel
def ws_c_X12_isLetter : List Cond := .code yX12_isLetter cX12_isLetter 2 (some .boolean) :: ([.code ⟨"NestedCheckerModel", "letters", "()I"⟩ cX12_letters 1 (some .int), .fieldLink "NestedCheckerModel" 7 "NestedCheckerModel" "at" "[I", .initialized "NestedCheckerModel", .instanceMethod ⟨"NestedCheckerModel", "letters", "()I"⟩, .selects "NestedCheckerModel" ⟨"NestedCheckerModel", "letters", "()I"⟩ ⟨"NestedCheckerModel", "letters", "()I"⟩, .methodLink "NestedCheckerModel" 285 ⟨"NestedCheckerModel", "letters", "()I"⟩] ++ wsX120)
set_option maxRecDepth 20000 in
theorem g_c_X12_isLetter_c_X12_letters : GoodIn ws_c_X12_isLetter ws_c_X12_letters := goodIn_r _ [1, 2, 7, 8, 9, 10, 11, 12, 13, 14, 15, 16, 17, 18, 19, 20, 21, 22, 23, 24, 25, 26, 27, 28, 29, 30, 31, 32, 33, 34, 35, 36, 37, 38, 39, 40, 41, 42, 43, 44, 45, 46, 47, 48, 49, 50, 51, 52, 53, 54, 55, 56, 57] (by decide +kernel) (by decide +kernel)
set_option maxHeartbeats 4000000 in
set_option maxRecDepth 100000 in
theorem c_X12_isLetter (l : Launch) (D : va_G) (k : jK) (m0 : Nat) (b1 : Nat) (b2 : Nat) (b3 : Nat) (b4 : Nat) (b5 : Nat) (b6 : Nat) (b7 : Nat) (w0 : Nat) (w1 : Nat) (w2 : Nat) (w3 : Nat) (w4 : Nat) (w5 : Nat) (w6 : Nat) (w7 : Nat) (w8 : Nat) (w9 : Nat) (w10 : Nat) (w11 : Nat) (w12 : Nat) (w13 : Nat) (w14 : Nat) (w15 : Nat) (w16 : Nat) (w17 : Nat) (w18 : Nat) (w19 : Nat) (w20 : Nat) (w21 : Nat) (w22 : Nat) (fa : Nat → Int32) (y : Int32) (sz : Nat) (ha : fa 4 = -1 ∧ ∀ j, j ≠ 4 → fa j = 0) : Met l yX12_isLetter ws_c_X12_isLetter ({ frames := 1, cells := 0, slots := 0, locals := 20 }) (jy_P [.ref m0, .int y] D vwCl (jT k) jW [(m0, .inr (11, [.ref b1, .ref b2, .int 0, .long 0, .long 1, .ref b3, .ref b4, .ref b5, .ref b6, .ref b7, .int 0, .int 0, .int 0, .int 0, .int 0, .int 0, .int (-1), .int (-1), .int 0, .int 0, .ref w0, .ref w1, .ref w2, .ref w3, .ref w4, .ref w5, .ref w6, .ref w7, .ref w8, .ref w9, .int 0, .int 0, .int 0, .ref w10, .ref w11, .int 0, .ref w12, .ref w13, .ref w14, .ref w15, .ref w16, .ref w17, .ref w18, .ref w19, .ref w20, .int 0, .ref w21, .ref w22, .int 0, .int 0, .int 0])), (b1, .inl (k.2.1, 1360, .inl fa))] sz) (vp_Si (fun (r : Int32) => r = 0)) 0 0 (fun _ => False) := by
  refine jy_metS (cc := cX12_isLetter) (maxL := 2) (ret := (some .boolean)) (lv := [(0, .ref m0), (1, .int y)]) (by decide) rfl (Nat.le_of_ble_eq_true rfl) rfl ?_
  intro p e s m below meth c F hr hlk hN
  have hiX12 : ∀ w ∈ u_ws RX12 TX12 51, w ∈ ws_c_X12_isLetter := fun w hw => List.mem_cons_of_mem _ (List.mem_append_right _ hw)
  refine jy_iload_n (pc' := 1) F 1 dX12_isLetter_0 rfl rfl rfl ?_
  refine jy_if_lt (pc' := 4) (tgt := 16) F dX12_isLetter_1 (by decide) rfl (fun h_1 => ?_) (fun h_1 => ?_)
  · refine jy_iconst (pc' := 17) (v := 0) F dX12_isLetter_16 (by decide) rfl ?_
    exact jy_zretS (v := 0) F hr hlk (by first | rfl | decide) (rfl) dX12_isLetter_17
  · refine jy_iload_n (pc' := 5) F 1 dX12_isLetter_4 rfl rfl rfl ?_
    refine jy_aload_n (pc' := 6) F 0 dX12_isLetter_5 rfl rfl rfl ?_
    refine jy_callSi (pc' := 9) (jy_runV (As := []) (b := m0) (q0 := 0) (ci := 11) (C := RX12) (T := TX12) (N := 51) (st := [.int y]) F hN (fun sz => c_X12_letters l D k m0 b1 b2 b3 b4 b5 b6 b7 w0 w1 w2 w3 w4 w5 w6 w7 w8 w9 w10 w11 w12 w13 w14 w15 w16 w17 w18 w19 w20 w21 w22 fa sz (ha)) (jy_cV F g_c_X12_isLetter_c_X12_letters rfl hdX12_letters (List.mem_of_getElem? (i := 3) rfl) (List.mem_of_getElem? (i := 6) rfl) (List.mem_of_getElem? (i := 4) rfl) (List.mem_of_getElem? (i := 5) rfl) rfl rfl ⟨by decide, by decide⟩) rfl rfl [0, 1] rfl (by decide) rfl rfl (Nat.le_of_ble_eq_true rfl) dX12_isLetter_6 ⟨by decide, by decide⟩) rfl (fun r_2 e_3 => ?_)
    subst e_3
    refine jy_icmp_ge (pc' := 12) (tgt := 16) F dX12_isLetter_9 (by decide) rfl (fun _ => ?_) (fun h => absurd (Int32.not_lt.mp h_1) h)
    refine jy_iconst (pc' := 17) (v := 0) F dX12_isLetter_16 (by decide) rfl ?_
    exact jy_zretS (v := 0) F hr hlk (by first | rfl | decide) (rfl) dX12_isLetter_17
abbrev cX12_areTwo : ByteArray := prog_14_method_51_code
def yX12_areTwo : MethodName := ⟨RX12, "areTwo", "(II)Z"⟩
theorem hdX12_areTwo : yX12_areTwo.cls ≠ "java/lang/invoke/MethodHandle" ∧ yX12_areTwo.cls ≠ "java/lang/invoke/VarHandle" ∧ (parseMethodDescriptor yX12_areTwo.desc).map (fun d => d.parameters.length) = some 2 := by decide +kernel
theorem dX12_areTwo_0 : decode cX12_areTwo 0 = .ok (.aload_n 0, 1) := by decide +kernel
theorem dX12_areTwo_1 : decode cX12_areTwo 1 = .ok (.iload_n 1, 1) := by decide +kernel
theorem dX12_areTwo_2 : decode cX12_areTwo 2 = .ok (.invokevirtual 282, 3) := by decide +kernel
theorem dX12_areTwo_5 : decode cX12_areTwo 5 = .ok (.ifCond .eq 20, 3) := by decide +kernel
theorem dX12_areTwo_25 : decode cX12_areTwo 25 = .ok (.iconst 0, 1) := by decide +kernel
theorem dX12_areTwo_26 : decode cX12_areTwo 26 = .ok (.ireturn, 1) := by decide +kernel
def ws_c_X12_areTwo : List Cond := .code yX12_areTwo cX12_areTwo 3 (some .boolean) :: ([.code ⟨"NestedCheckerModel", "isAutomaton", "(I)Z"⟩ cX12_isAutomaton 2 (some .boolean), .fieldLink "NestedCheckerModel" 7 "NestedCheckerModel" "at" "[I", .initialized "NestedCheckerModel", .instanceMethod ⟨"NestedCheckerModel", "isAutomaton", "(I)Z"⟩, .selects "NestedCheckerModel" ⟨"NestedCheckerModel", "isAutomaton", "(I)Z"⟩ ⟨"NestedCheckerModel", "isAutomaton", "(I)Z"⟩, .methodLink "NestedCheckerModel" 282 ⟨"NestedCheckerModel", "isAutomaton", "(I)Z"⟩] ++ wsX120)
set_option maxRecDepth 20000 in
theorem g_c_X12_areTwo_c_X12_isAutomaton : GoodIn ws_c_X12_areTwo ws_c_X12_isAutomaton := goodIn_r _ [1, 2, 7, 8, 9, 10, 11, 12, 13, 14, 15, 16, 17, 18, 19, 20, 21, 22, 23, 24, 25, 26, 27, 28, 29, 30, 31, 32, 33, 34, 35, 36, 37, 38, 39, 40, 41, 42, 43, 44, 45, 46, 47, 48, 49, 50, 51, 52, 53, 54, 55, 56, 57] (by decide +kernel) (by decide +kernel)
set_option maxHeartbeats 4000000 in
set_option maxRecDepth 100000 in
theorem c_X12_areTwo (l : Launch) (D : va_G) (k : jK) (m0 : Nat) (b1 : Nat) (b2 : Nat) (b3 : Nat) (b4 : Nat) (b5 : Nat) (b6 : Nat) (b7 : Nat) (w0 : Nat) (w1 : Nat) (w2 : Nat) (w3 : Nat) (w4 : Nat) (w5 : Nat) (w6 : Nat) (w7 : Nat) (w8 : Nat) (w9 : Nat) (w10 : Nat) (w11 : Nat) (w12 : Nat) (w13 : Nat) (w14 : Nat) (w15 : Nat) (w16 : Nat) (w17 : Nat) (w18 : Nat) (w19 : Nat) (w20 : Nat) (w21 : Nat) (w22 : Nat) (fa : Nat → Int32) (y : Int32) (z : Int32) (sz : Nat) (ha : fa 4 = -1 ∧ ∀ j, j ≠ 4 → fa j = 0) : Met l yX12_areTwo ws_c_X12_areTwo ({ frames := 1, cells := 0, slots := 0, locals := 21 }) (jy_P [.ref m0, .int y, .int z] D vwCl (jT k) jW [(m0, .inr (11, [.ref b1, .ref b2, .int 0, .long 0, .long 1, .ref b3, .ref b4, .ref b5, .ref b6, .ref b7, .int 0, .int 0, .int 0, .int 0, .int 0, .int 0, .int (-1), .int (-1), .int 0, .int 0, .ref w0, .ref w1, .ref w2, .ref w3, .ref w4, .ref w5, .ref w6, .ref w7, .ref w8, .ref w9, .int 0, .int 0, .int 0, .ref w10, .ref w11, .int 0, .ref w12, .ref w13, .ref w14, .ref w15, .ref w16, .ref w17, .ref w18, .ref w19, .ref w20, .int 0, .ref w21, .ref w22, .int 0, .int 0, .int 0])), (b1, .inl (k.2.1, 1360, .inl fa))] sz) (vp_Si (fun (r : Int32) => r = 0)) 0 0 (fun _ => False) := by
  refine jy_metS (cc := cX12_areTwo) (maxL := 3) (ret := (some .boolean)) (lv := [(0, .ref m0), (1, .int y), (2, .int z)]) (by decide) rfl (Nat.le_of_ble_eq_true rfl) rfl ?_
  intro p e s m below meth c F hr hlk hN
  have hiX12 : ∀ w ∈ u_ws RX12 TX12 51, w ∈ ws_c_X12_areTwo := fun w hw => List.mem_cons_of_mem _ (List.mem_append_right _ hw)
  refine jy_aload_n (pc' := 1) F 0 dX12_areTwo_0 rfl rfl rfl ?_
  refine jy_iload_n (pc' := 2) F 1 dX12_areTwo_1 rfl rfl rfl ?_
  refine jy_callSi (pc' := 5) (jy_runV (As := [.int y]) (b := m0) (q0 := 0) (ci := 11) (C := RX12) (T := TX12) (N := 51) (st := []) F hN (fun sz => c_X12_isAutomaton l D k m0 b1 b2 b3 b4 b5 b6 b7 w0 w1 w2 w3 w4 w5 w6 w7 w8 w9 w10 w11 w12 w13 w14 w15 w16 w17 w18 w19 w20 w21 w22 fa y sz (ha)) (jy_cV F g_c_X12_areTwo_c_X12_isAutomaton rfl hdX12_isAutomaton (List.mem_of_getElem? (i := 3) rfl) (List.mem_of_getElem? (i := 6) rfl) (List.mem_of_getElem? (i := 4) rfl) (List.mem_of_getElem? (i := 5) rfl) rfl rfl ⟨by decide, by decide⟩) rfl rfl [0, 1] rfl (by decide) rfl rfl (Nat.le_of_ble_eq_true rfl) dX12_areTwo_2 ⟨by decide, by decide⟩) rfl (fun r_1 e_2 => ?_)
  subst e_2
  refine jy_if_eq (pc' := 8) (tgt := 25) F dX12_areTwo_5 (by decide) rfl (fun _ => ?_) (fun h => absurd h (by decide))
  refine jy_iconst (pc' := 26) (v := 0) F dX12_areTwo_25 (by decide) rfl ?_
  exact jy_zretS (v := 0) F hr hlk (by first | rfl | decide) (rfl) dX12_areTwo_26
abbrev cX12_isRuleAt : ByteArray := prog_14_method_59_code
def yX12_isRuleAt : MethodName := ⟨RX12, "isRuleAt", "(II)Z"⟩
theorem hdX12_isRuleAt : yX12_isRuleAt.cls ≠ "java/lang/invoke/MethodHandle" ∧ yX12_isRuleAt.cls ≠ "java/lang/invoke/VarHandle" ∧ (parseMethodDescriptor yX12_isRuleAt.desc).map (fun d => d.parameters.length) = some 2 := by decide +kernel
theorem dX12_isRuleAt_0 : decode cX12_isRuleAt 0 = .ok (.aload_n 0, 1) := by decide +kernel
theorem dX12_isRuleAt_1 : decode cX12_isRuleAt 1 = .ok (.iload_n 1, 1) := by decide +kernel
theorem dX12_isRuleAt_2 : decode cX12_isRuleAt 2 = .ok (.invokevirtual 282, 3) := by decide +kernel
theorem dX12_isRuleAt_5 : decode cX12_isRuleAt 5 = .ok (.ifCond .eq 21, 3) := by decide +kernel
theorem dX12_isRuleAt_26 : decode cX12_isRuleAt 26 = .ok (.iconst 0, 1) := by decide +kernel
theorem dX12_isRuleAt_27 : decode cX12_isRuleAt 27 = .ok (.ireturn, 1) := by decide +kernel
def ws_c_X12_isRuleAt : List Cond := .code yX12_isRuleAt cX12_isRuleAt 3 (some .boolean) :: ([.code ⟨"NestedCheckerModel", "isAutomaton", "(I)Z"⟩ cX12_isAutomaton 2 (some .boolean), .fieldLink "NestedCheckerModel" 7 "NestedCheckerModel" "at" "[I", .initialized "NestedCheckerModel", .instanceMethod ⟨"NestedCheckerModel", "isAutomaton", "(I)Z"⟩, .selects "NestedCheckerModel" ⟨"NestedCheckerModel", "isAutomaton", "(I)Z"⟩ ⟨"NestedCheckerModel", "isAutomaton", "(I)Z"⟩, .methodLink "NestedCheckerModel" 282 ⟨"NestedCheckerModel", "isAutomaton", "(I)Z"⟩] ++ wsX120)
set_option maxRecDepth 20000 in
theorem g_c_X12_isRuleAt_c_X12_isAutomaton : GoodIn ws_c_X12_isRuleAt ws_c_X12_isAutomaton := goodIn_r _ [1, 2, 7, 8, 9, 10, 11, 12, 13, 14, 15, 16, 17, 18, 19, 20, 21, 22, 23, 24, 25, 26, 27, 28, 29, 30, 31, 32, 33, 34, 35, 36, 37, 38, 39, 40, 41, 42, 43, 44, 45, 46, 47, 48, 49, 50, 51, 52, 53, 54, 55, 56, 57] (by decide +kernel) (by decide +kernel)
set_option maxHeartbeats 4000000 in
set_option maxRecDepth 100000 in
theorem c_X12_isRuleAt (l : Launch) (D : va_G) (k : jK) (m0 : Nat) (b1 : Nat) (b2 : Nat) (b3 : Nat) (b4 : Nat) (b5 : Nat) (b6 : Nat) (b7 : Nat) (w0 : Nat) (w1 : Nat) (w2 : Nat) (w3 : Nat) (w4 : Nat) (w5 : Nat) (w6 : Nat) (w7 : Nat) (w8 : Nat) (w9 : Nat) (w10 : Nat) (w11 : Nat) (w12 : Nat) (w13 : Nat) (w14 : Nat) (w15 : Nat) (w16 : Nat) (w17 : Nat) (w18 : Nat) (w19 : Nat) (w20 : Nat) (w21 : Nat) (w22 : Nat) (fa : Nat → Int32) (y : Int32) (z : Int32) (sz : Nat) (ha : fa 4 = -1 ∧ ∀ j, j ≠ 4 → fa j = 0) : Met l yX12_isRuleAt ws_c_X12_isRuleAt ({ frames := 1, cells := 0, slots := 0, locals := 21 }) (jy_P [.ref m0, .int y, .int z] D vwCl (jT k) jW [(m0, .inr (11, [.ref b1, .ref b2, .int 0, .long 0, .long 1, .ref b3, .ref b4, .ref b5, .ref b6, .ref b7, .int 0, .int 0, .int 0, .int 0, .int 0, .int 0, .int (-1), .int (-1), .int 0, .int 0, .ref w0, .ref w1, .ref w2, .ref w3, .ref w4, .ref w5, .ref w6, .ref w7, .ref w8, .ref w9, .int 0, .int 0, .int 0, .ref w10, .ref w11, .int 0, .ref w12, .ref w13, .ref w14, .ref w15, .ref w16, .ref w17, .ref w18, .ref w19, .ref w20, .int 0, .ref w21, .ref w22, .int 0, .int 0, .int 0])), (b1, .inl (k.2.1, 1360, .inl fa))] sz) (vp_Si (fun (r : Int32) => r = 0)) 0 0 (fun _ => False) := by
  refine jy_metS (cc := cX12_isRuleAt) (maxL := 3) (ret := (some .boolean)) (lv := [(0, .ref m0), (1, .int y), (2, .int z)]) (by decide) rfl (Nat.le_of_ble_eq_true rfl) rfl ?_
  intro p e s m below meth c F hr hlk hN
  have hiX12 : ∀ w ∈ u_ws RX12 TX12 51, w ∈ ws_c_X12_isRuleAt := fun w hw => List.mem_cons_of_mem _ (List.mem_append_right _ hw)
  refine jy_aload_n (pc' := 1) F 0 dX12_isRuleAt_0 rfl rfl rfl ?_
  refine jy_iload_n (pc' := 2) F 1 dX12_isRuleAt_1 rfl rfl rfl ?_
  refine jy_callSi (pc' := 5) (jy_runV (As := [.int y]) (b := m0) (q0 := 0) (ci := 11) (C := RX12) (T := TX12) (N := 51) (st := []) F hN (fun sz => c_X12_isAutomaton l D k m0 b1 b2 b3 b4 b5 b6 b7 w0 w1 w2 w3 w4 w5 w6 w7 w8 w9 w10 w11 w12 w13 w14 w15 w16 w17 w18 w19 w20 w21 w22 fa y sz (ha)) (jy_cV F g_c_X12_isRuleAt_c_X12_isAutomaton rfl hdX12_isAutomaton (List.mem_of_getElem? (i := 3) rfl) (List.mem_of_getElem? (i := 6) rfl) (List.mem_of_getElem? (i := 4) rfl) (List.mem_of_getElem? (i := 5) rfl) rfl rfl ⟨by decide, by decide⟩) rfl rfl [0, 1] rfl (by decide) rfl rfl (Nat.le_of_ble_eq_true rfl) dX12_isRuleAt_2 ⟨by decide, by decide⟩) rfl (fun r_1 e_2 => ?_)
  subst e_2
  refine jy_if_eq (pc' := 8) (tgt := 26) F dX12_isRuleAt_5 (by decide) rfl (fun _ => ?_) (fun h => absurd h (by decide))
  refine jy_iconst (pc' := 27) (v := 0) F dX12_isRuleAt_26 (by decide) rfl ?_
  exact jy_zretS (v := 0) F hr hlk (by first | rfl | decide) (rfl) dX12_isRuleAt_27
abbrev cX12_isCount : ByteArray := prog_14_method_137_code
def yX12_isCount : MethodName := ⟨RX12, "isCount", "(III)Z"⟩
theorem hdX12_isCount : yX12_isCount.cls ≠ "java/lang/invoke/MethodHandle" ∧ yX12_isCount.cls ≠ "java/lang/invoke/VarHandle" ∧ (parseMethodDescriptor yX12_isCount.desc).map (fun d => d.parameters.length) = some 3 := by decide +kernel
theorem dX12_isCount_0 : decode cX12_isCount 0 = .ok (.aload_n 0, 1) := by decide +kernel
theorem dX12_isCount_1 : decode cX12_isCount 1 = .ok (.iload_n 1, 1) := by decide +kernel
theorem dX12_isCount_2 : decode cX12_isCount 2 = .ok (.invokevirtual 282, 3) := by decide +kernel
theorem dX12_isCount_5 : decode cX12_isCount 5 = .ok (.ifCond .eq 20, 3) := by decide +kernel
theorem dX12_isCount_25 : decode cX12_isCount 25 = .ok (.iconst 0, 1) := by decide +kernel
theorem dX12_isCount_26 : decode cX12_isCount 26 = .ok (.ireturn, 1) := by decide +kernel
def ws_c_X12_isCount : List Cond := .code yX12_isCount cX12_isCount 4 (some .boolean) :: ([.code ⟨"NestedCheckerModel", "isAutomaton", "(I)Z"⟩ cX12_isAutomaton 2 (some .boolean), .fieldLink "NestedCheckerModel" 7 "NestedCheckerModel" "at" "[I", .initialized "NestedCheckerModel", .instanceMethod ⟨"NestedCheckerModel", "isAutomaton", "(I)Z"⟩, .selects "NestedCheckerModel" ⟨"NestedCheckerModel", "isAutomaton", "(I)Z"⟩ ⟨"NestedCheckerModel", "isAutomaton", "(I)Z"⟩, .methodLink "NestedCheckerModel" 282 ⟨"NestedCheckerModel", "isAutomaton", "(I)Z"⟩] ++ wsX120)
set_option maxRecDepth 20000 in
theorem g_c_X12_isCount_c_X12_isAutomaton : GoodIn ws_c_X12_isCount ws_c_X12_isAutomaton := goodIn_r _ [1, 2, 7, 8, 9, 10, 11, 12, 13, 14, 15, 16, 17, 18, 19, 20, 21, 22, 23, 24, 25, 26, 27, 28, 29, 30, 31, 32, 33, 34, 35, 36, 37, 38, 39, 40, 41, 42, 43, 44, 45, 46, 47, 48, 49, 50, 51, 52, 53, 54, 55, 56, 57] (by decide +kernel) (by decide +kernel)
set_option maxHeartbeats 4000000 in
set_option maxRecDepth 100000 in
theorem c_X12_isCount (l : Launch) (D : va_G) (k : jK) (m0 : Nat) (b1 : Nat) (b2 : Nat) (b3 : Nat) (b4 : Nat) (b5 : Nat) (b6 : Nat) (b7 : Nat) (w0 : Nat) (w1 : Nat) (w2 : Nat) (w3 : Nat) (w4 : Nat) (w5 : Nat) (w6 : Nat) (w7 : Nat) (w8 : Nat) (w9 : Nat) (w10 : Nat) (w11 : Nat) (w12 : Nat) (w13 : Nat) (w14 : Nat) (w15 : Nat) (w16 : Nat) (w17 : Nat) (w18 : Nat) (w19 : Nat) (w20 : Nat) (w21 : Nat) (w22 : Nat) (fa : Nat → Int32) (y : Int32) (z : Int32) (y3 : Int32) (sz : Nat) (ha : fa 4 = -1 ∧ ∀ j, j ≠ 4 → fa j = 0) : Met l yX12_isCount ws_c_X12_isCount ({ frames := 1, cells := 0, slots := 0, locals := 21 }) (jy_P [.ref m0, .int y, .int z, .int y3] D vwCl (jT k) jW [(m0, .inr (11, [.ref b1, .ref b2, .int 0, .long 0, .long 1, .ref b3, .ref b4, .ref b5, .ref b6, .ref b7, .int 0, .int 0, .int 0, .int 0, .int 0, .int 0, .int (-1), .int (-1), .int 0, .int 0, .ref w0, .ref w1, .ref w2, .ref w3, .ref w4, .ref w5, .ref w6, .ref w7, .ref w8, .ref w9, .int 0, .int 0, .int 0, .ref w10, .ref w11, .int 0, .ref w12, .ref w13, .ref w14, .ref w15, .ref w16, .ref w17, .ref w18, .ref w19, .ref w20, .int 0, .ref w21, .ref w22, .int 0, .int 0, .int 0])), (b1, .inl (k.2.1, 1360, .inl fa))] sz) (vp_Si (fun (r : Int32) => r = 0)) 0 0 (fun _ => False) := by
  refine jy_metS (cc := cX12_isCount) (maxL := 4) (ret := (some .boolean)) (lv := [(0, .ref m0), (1, .int y), (2, .int z), (3, .int y3)]) (by decide) rfl (Nat.le_of_ble_eq_true rfl) rfl ?_
  intro p e s m below meth c F hr hlk hN
  have hiX12 : ∀ w ∈ u_ws RX12 TX12 51, w ∈ ws_c_X12_isCount := fun w hw => List.mem_cons_of_mem _ (List.mem_append_right _ hw)
  refine jy_aload_n (pc' := 1) F 0 dX12_isCount_0 rfl rfl rfl ?_
  refine jy_iload_n (pc' := 2) F 1 dX12_isCount_1 rfl rfl rfl ?_
  refine jy_callSi (pc' := 5) (jy_runV (As := [.int y]) (b := m0) (q0 := 0) (ci := 11) (C := RX12) (T := TX12) (N := 51) (st := []) F hN (fun sz => c_X12_isAutomaton l D k m0 b1 b2 b3 b4 b5 b6 b7 w0 w1 w2 w3 w4 w5 w6 w7 w8 w9 w10 w11 w12 w13 w14 w15 w16 w17 w18 w19 w20 w21 w22 fa y sz (ha)) (jy_cV F g_c_X12_isCount_c_X12_isAutomaton rfl hdX12_isAutomaton (List.mem_of_getElem? (i := 3) rfl) (List.mem_of_getElem? (i := 6) rfl) (List.mem_of_getElem? (i := 4) rfl) (List.mem_of_getElem? (i := 5) rfl) rfl rfl ⟨by decide, by decide⟩) rfl rfl [0, 1] rfl (by decide) rfl rfl (Nat.le_of_ble_eq_true rfl) dX12_isCount_2 ⟨by decide, by decide⟩) rfl (fun r_1 e_2 => ?_)
  subst e_2
  refine jy_if_eq (pc' := 8) (tgt := 25) F dX12_isCount_5 (by decide) rfl (fun _ => ?_) (fun h => absurd h (by decide))
  refine jy_iconst (pc' := 26) (v := 0) F dX12_isCount_25 (by decide) rfl ?_
  exact jy_zretS (v := 0) F hr hlk (by first | rfl | decide) (rfl) dX12_isCount_26
abbrev cX12_isWordCall : ByteArray := prog_14_method_81_code
def yX12_isWordCall : MethodName := ⟨RX12, "isWordCall", "(II)Z"⟩
theorem hdX12_isWordCall : yX12_isWordCall.cls ≠ "java/lang/invoke/MethodHandle" ∧ yX12_isWordCall.cls ≠ "java/lang/invoke/VarHandle" ∧ (parseMethodDescriptor yX12_isWordCall.desc).map (fun d => d.parameters.length) = some 2 := by decide +kernel
theorem dX12_isWordCall_0 : decode cX12_isWordCall 0 = .ok (.iload_n 1, 1) := by decide +kernel
theorem dX12_isWordCall_1 : decode cX12_isWordCall 1 = .ok (.invokestatic 134, 3) := by decide +kernel
theorem dX12_isWordCall_4 : decode cX12_isWordCall 4 = .ok (.ifCond .eq 19, 3) := by decide +kernel
theorem dX12_isWordCall_7 : decode cX12_isWordCall 7 = .ok (.iload_n 2, 1) := by decide +kernel
theorem dX12_isWordCall_8 : decode cX12_isWordCall 8 = .ok (.i2l, 1) := by decide +kernel
theorem dX12_isWordCall_9 : decode cX12_isWordCall 9 = .ok (.lconst 0, 1) := by decide +kernel
theorem dX12_isWordCall_10 : decode cX12_isWordCall 10 = .ok (.ldc2_w 356, 3) := by decide +kernel
theorem dX12_isWordCall_13 : decode cX12_isWordCall 13 = .ok (.invokestatic 338, 3) := by decide +kernel
theorem dX12_isWordCall_16 : decode cX12_isWordCall 16 = .ok (.ifCond .eq 7, 3) := by decide +kernel
theorem dX12_isWordCall_19 : decode cX12_isWordCall 19 = .ok (.iconst 1, 1) := by decide +kernel
theorem dX12_isWordCall_20 : decode cX12_isWordCall 20 = .ok (.goto 4, 3) := by decide +kernel
theorem dX12_isWordCall_23 : decode cX12_isWordCall 23 = .ok (.iconst 0, 1) := by decide +kernel
theorem dX12_isWordCall_24 : decode cX12_isWordCall 24 = .ok (.ireturn, 1) := by decide +kernel
def ws_c_X12_isWordCall : List Cond := .code yX12_isWordCall cX12_isWordCall 3 (some .boolean) :: ([.code ⟨"NestedCheckerModel", "isTray", "(I)Z"⟩ cX12_isTray 1 (some .boolean), .initialized "NestedCheckerModel", .static ⟨"NestedCheckerModel", "isTray", "(I)Z"⟩, .methodLink "NestedCheckerModel" 134 ⟨"NestedCheckerModel", "isTray", "(I)Z"⟩, .constantLong "NestedCheckerModel" 356 (20 : Int64), .code ⟨"NestedCheckerModel", "isFrom", "(JJJ)Z"⟩ cX12_isFrom 6 (some .boolean), .static ⟨"NestedCheckerModel", "isFrom", "(JJJ)Z"⟩, .methodLink "NestedCheckerModel" 338 ⟨"NestedCheckerModel", "isFrom", "(JJJ)Z"⟩])
set_option maxRecDepth 20000 in
theorem g_c_X12_isWordCall_c_X12_isTray : GoodIn ws_c_X12_isWordCall ws_c_X12_isTray := goodIn_r _ [1] (by decide +kernel) (by decide +kernel)
set_option maxRecDepth 20000 in
theorem g_c_X12_isWordCall_c_X12_isFrom : GoodIn ws_c_X12_isWordCall ws_c_X12_isFrom := goodIn_r _ [6] (by decide +kernel) (by decide +kernel)
set_option maxHeartbeats 4000000 in
set_option maxRecDepth 100000 in
theorem c_X12_isWordCall (l : Launch) (D : va_G) (k : jK) (m0 : Nat) (b1 : Nat) (b2 : Nat) (b3 : Nat) (b4 : Nat) (b5 : Nat) (b6 : Nat) (b7 : Nat) (w0 : Nat) (w1 : Nat) (w2 : Nat) (w3 : Nat) (w4 : Nat) (w5 : Nat) (w6 : Nat) (w7 : Nat) (w8 : Nat) (w9 : Nat) (w10 : Nat) (w11 : Nat) (w12 : Nat) (w13 : Nat) (w14 : Nat) (w15 : Nat) (w16 : Nat) (w17 : Nat) (w18 : Nat) (w19 : Nat) (w20 : Nat) (w21 : Nat) (w22 : Nat) (y : Int32) (z : Int32) (sz : Nat)  : Met l yX12_isWordCall ws_c_X12_isWordCall ({ frames := 1, cells := 0, slots := 0, locals := 25 }) (jy_P [.ref m0, .int y, .int z] D vwCl (jT k) jW [(m0, .inr (11, [.ref b1, .ref b2, .int 0, .long 0, .long 1, .ref b3, .ref b4, .ref b5, .ref b6, .ref b7, .int 0, .int 0, .int 0, .int 0, .int 0, .int 0, .int (-1), .int (-1), .int 0, .int 0, .ref w0, .ref w1, .ref w2, .ref w3, .ref w4, .ref w5, .ref w6, .ref w7, .ref w8, .ref w9, .int 0, .int 0, .int 0, .ref w10, .ref w11, .int 0, .ref w12, .ref w13, .ref w14, .ref w15, .ref w16, .ref w17, .ref w18, .ref w19, .ref w20, .int 0, .ref w21, .ref w22, .int 0, .int 0, .int 0]))] sz) (vp_Si (fun (r : Int32) => (r = 1 ∧ ¬ y < 0 ∧ ¬ 4 ≤ y) ∨ (r = 0 ∧ True))) 0 0 (fun _ => False) := by
  refine jy_metS (cc := cX12_isWordCall) (maxL := 3) (ret := (some .boolean)) (lv := [(0, .ref m0), (1, .int y), (2, .int z)]) (by decide) rfl (Nat.le_of_ble_eq_true rfl) rfl ?_
  intro p e s m below meth c F hr hlk hN
  refine jy_iload_n (pc' := 1) F 1 dX12_isWordCall_0 rfl rfl rfl ?_
  refine jy_callSi (pc' := 4) (jy_runS (As := [.int y]) (st := []) F hN (fun sz => c_X12_isTray l D k y sz ) (jy_cS F g_c_X12_isWordCall_c_X12_isTray rfl hdX12_isTray (List.mem_of_getElem? (i := 2) rfl) (List.mem_of_getElem? (i := 4) rfl) (List.mem_of_getElem? (i := 3) rfl) rfl rfl ⟨by decide, by decide⟩) [] rfl (by decide) rfl rfl (Nat.le_of_ble_eq_true rfl) dX12_isWordCall_1 ⟨by decide, by decide⟩) rfl (fun r_1 e_2 => ?_)
  rcases e_2 with ⟨z_4, h_3⟩ | ⟨z_5, h_3⟩
  · subst z_4
    refine jy_if_eq (pc' := 7) (tgt := 23) F dX12_isWordCall_4 (by decide) rfl (fun h => absurd h (by decide)) (fun _ => ?_)
    refine jy_iload_n (pc' := 8) F 2 dX12_isWordCall_7 rfl rfl rfl ?_
    refine jy_i2l (pc' := 9) (v := ((z).toInt64)) F dX12_isWordCall_8 rfl rfl ?_
    refine jy_lconst (pc' := 10) (v := 0) F dX12_isWordCall_9 (by decide) rfl ?_
    refine jy_ldc2 (pc' := 13) (v := 20) F dX12_isWordCall_10 (List.mem_of_getElem? (i := 5) rfl) rfl ?_
    refine jy_callSi (pc' := 16) (jy_runS (As := [.long ((z).toInt64), .long 0, .long 20]) (st := []) F hN (fun sz => c_X12_isFrom l D k ((z).toInt64) 0 20 sz ) (jy_cS F g_c_X12_isWordCall_c_X12_isFrom rfl hdX12_isFrom (List.mem_of_getElem? (i := 2) rfl) (List.mem_of_getElem? (i := 8) rfl) (List.mem_of_getElem? (i := 7) rfl) rfl rfl ⟨by decide, by decide⟩) [] rfl (by decide) rfl rfl (Nat.le_of_ble_eq_true rfl) dX12_isWordCall_13 ⟨by decide, by decide⟩) rfl (fun r_7 e_8 => ?_)
    rcases e_8 with ⟨z_10, h_9⟩ | ⟨z_11, h_9⟩
    · subst z_10
      refine jy_if_eq (pc' := 19) (tgt := 23) F dX12_isWordCall_16 (by decide) rfl (fun h => absurd h (by decide)) (fun _ => ?_)
      refine jy_iconst (pc' := 20) (v := 1) F dX12_isWordCall_19 (by decide) rfl ?_
      refine jy_goto (tgt := 24) F dX12_isWordCall_20 (by decide) ?_
      exact jy_zretS (v := 1) F hr hlk (by first | rfl | decide) (Or.inl ⟨rfl, h_3⟩) dX12_isWordCall_24
    · subst z_11
      refine jy_if_eq (pc' := 19) (tgt := 23) F dX12_isWordCall_16 (by decide) rfl (fun _ => ?_) (fun h => absurd h (by decide))
      refine jy_iconst (pc' := 24) (v := 0) F dX12_isWordCall_23 (by decide) rfl ?_
      exact jy_zretS (v := 0) F hr hlk (by first | rfl | decide) (Or.inr ⟨rfl, trivial⟩) dX12_isWordCall_24
  · subst z_5
    refine jy_if_eq (pc' := 7) (tgt := 23) F dX12_isWordCall_4 (by decide) rfl (fun _ => ?_) (fun h => absurd h (by decide))
    refine jy_iconst (pc' := 24) (v := 0) F dX12_isWordCall_23 (by decide) rfl ?_
    exact jy_zretS (v := 0) F hr hlk (by first | rfl | decide) (Or.inr ⟨rfl, trivial⟩) dX12_isWordCall_24
abbrev cX12_wrongPlace : ByteArray := prog_14_method_14_code
def yX12_wrongPlace : MethodName := ⟨RX12, "wrongPlace", "(II)I"⟩
theorem hdX12_wrongPlace : yX12_wrongPlace.cls ≠ "java/lang/invoke/MethodHandle" ∧ yX12_wrongPlace.cls ≠ "java/lang/invoke/VarHandle" ∧ (parseMethodDescriptor yX12_wrongPlace.desc).map (fun d => d.parameters.length) = some 2 := by decide +kernel
theorem dX12_wrongPlace_0 : decode cX12_wrongPlace 0 = .ok (.iload_n 1, 1) := by decide +kernel
theorem dX12_wrongPlace_1 : decode cX12_wrongPlace 1 = .ok (.invokestatic 134, 3) := by decide +kernel
theorem dX12_wrongPlace_4 : decode cX12_wrongPlace 4 = .ok (.ifCond .ne 7, 3) := by decide +kernel
theorem dX12_wrongPlace_7 : decode cX12_wrongPlace 7 = .ok (.iconst 1, 1) := by decide +kernel
theorem dX12_wrongPlace_8 : decode cX12_wrongPlace 8 = .ok (.goto 36, 3) := by decide +kernel
theorem dX12_wrongPlace_11 : decode cX12_wrongPlace 11 = .ok (.aload_n 0, 1) := by decide +kernel
theorem dX12_wrongPlace_12 : decode cX12_wrongPlace 12 = .ok (.getfield 24, 3) := by decide +kernel
theorem dX12_wrongPlace_15 : decode cX12_wrongPlace 15 = .ok (.iload_n 1, 1) := by decide +kernel
theorem dX12_wrongPlace_16 : decode cX12_wrongPlace 16 = .ok (.iaload, 1) := by decide +kernel
theorem dX12_wrongPlace_17 : decode cX12_wrongPlace 17 = .ok (.iconst (-1), 1) := by decide +kernel
theorem dX12_wrongPlace_18 : decode cX12_wrongPlace 18 = .ok (.if_icmp .ne 7, 3) := by decide +kernel
theorem dX12_wrongPlace_21 : decode cX12_wrongPlace 21 = .ok (.iconst 2, 1) := by decide +kernel
theorem dX12_wrongPlace_22 : decode cX12_wrongPlace 22 = .ok (.goto 22, 3) := by decide +kernel
theorem dX12_wrongPlace_44 : decode cX12_wrongPlace 44 = .ok (.ireturn, 1) := by decide +kernel
def ws_c_X12_wrongPlace : List Cond := .code yX12_wrongPlace cX12_wrongPlace 3 (some .int) :: ([.code ⟨"NestedCheckerModel", "isTray", "(I)Z"⟩ cX12_isTray 1 (some .boolean), .initialized "NestedCheckerModel", .static ⟨"NestedCheckerModel", "isTray", "(I)Z"⟩, .methodLink "NestedCheckerModel" 134 ⟨"NestedCheckerModel", "isTray", "(I)Z"⟩, .fieldLink "NestedCheckerModel" 24 "NestedCheckerModel" "trayMany" "[I"] ++ wsX120)
set_option maxRecDepth 20000 in
theorem g_c_X12_wrongPlace_c_X12_isTray : GoodIn ws_c_X12_wrongPlace ws_c_X12_isTray := goodIn_r _ [1] (by decide +kernel) (by decide +kernel)
set_option maxHeartbeats 4000000 in
set_option maxRecDepth 100000 in
theorem c_X12_wrongPlace (l : Launch) (D : va_G) (k : jK) (m0 : Nat) (b1 : Nat) (b2 : Nat) (b3 : Nat) (b4 : Nat) (b5 : Nat) (b6 : Nat) (b7 : Nat) (w0 : Nat) (w1 : Nat) (w2 : Nat) (w3 : Nat) (w4 : Nat) (w5 : Nat) (w6 : Nat) (w7 : Nat) (w8 : Nat) (w9 : Nat) (w10 : Nat) (w11 : Nat) (w12 : Nat) (w13 : Nat) (w14 : Nat) (w15 : Nat) (w16 : Nat) (w17 : Nat) (w18 : Nat) (w19 : Nat) (w20 : Nat) (w21 : Nat) (w22 : Nat) (fm : Nat → Int32) (y : Int32) (z : Int32) (sz : Nat) (hm : ∀ j, j < 4 → fm j = -1) : Met l yX12_wrongPlace ws_c_X12_wrongPlace ({ frames := 1, cells := 0, slots := 0, locals := 20 }) (jy_P [.ref m0, .int y, .int z] D vwCl (jT k) jW [(m0, .inr (11, [.ref b1, .ref b2, .int 0, .long 0, .long 1, .ref b3, .ref b4, .ref b5, .ref b6, .ref b7, .int 0, .int 0, .int 0, .int 0, .int 0, .int 0, .int (-1), .int (-1), .int 0, .int 0, .ref w0, .ref w1, .ref w2, .ref w3, .ref w4, .ref w5, .ref w6, .ref w7, .ref w8, .ref w9, .int 0, .int 0, .int 0, .ref w10, .ref w11, .int 0, .ref w12, .ref w13, .ref w14, .ref w15, .ref w16, .ref w17, .ref w18, .ref w19, .ref w20, .int 0, .ref w21, .ref w22, .int 0, .int 0, .int 0])), (b4, .inl (k.2.1, 4, .inl fm))] sz) (vp_Si (fun (r : Int32) => (r = 1 ∧ True) ∨ (r = 2 ∧ True))) 0 0 (fun _ => False) := by
  refine jy_metS (cc := cX12_wrongPlace) (maxL := 3) (ret := (some .int)) (lv := [(0, .ref m0), (1, .int y), (2, .int z)]) (by decide) rfl (Nat.le_of_ble_eq_true rfl) rfl ?_
  intro p e s m below meth c F hr hlk hN
  have hiX12 : ∀ w ∈ u_ws RX12 TX12 51, w ∈ ws_c_X12_wrongPlace := fun w hw => List.mem_cons_of_mem _ (List.mem_append_right _ hw)
  refine jy_iload_n (pc' := 1) F 1 dX12_wrongPlace_0 rfl rfl rfl ?_
  refine jy_callSi (pc' := 4) (jy_runS (As := [.int y]) (st := []) F hN (fun sz => c_X12_isTray l D k y sz ) (jy_cS F g_c_X12_wrongPlace_c_X12_isTray rfl hdX12_isTray (List.mem_of_getElem? (i := 2) rfl) (List.mem_of_getElem? (i := 4) rfl) (List.mem_of_getElem? (i := 3) rfl) rfl rfl ⟨by decide, by decide⟩) [] rfl (by decide) rfl rfl (Nat.le_of_ble_eq_true rfl) dX12_wrongPlace_1 ⟨by decide, by decide⟩) rfl (fun r_1 e_2 => ?_)
  rcases e_2 with ⟨z_4, h_3⟩ | ⟨z_5, h_3⟩
  · subst z_4
    refine jy_if_ne (pc' := 7) (tgt := 11) F dX12_wrongPlace_4 (by decide) rfl (fun _ => ?_) (fun h => absurd h (by decide))
    obtain ⟨tt, htt, rfl⟩ := jy_lt4 h_3.1 h_3.2
    refine jy_aload_n (pc' := 12) F 0 dX12_wrongPlace_11 rfl rfl rfl ?_
    refine jy_get (pc' := 15) (C := RX12) (T := TX12) (N := 51) (ci := 11) (v := .ref b4) F hiX12 0 rfl rfl 6 (by decide) dX12_wrongPlace_12 (List.mem_of_getElem? (i := 5) rfl) rfl rfl ?_
    refine jy_iload_n (pc' := 16) F 1 dX12_wrongPlace_15 rfl rfl rfl ?_
    refine jy_iald (pc' := 17) (v := (-1)) F 1 1 rfl rfl dX12_wrongPlace_16 (vp_in_nI (n := tt) (by omega) (by omega)) (by first | exact hm _ (by decide) | (rw [nI_clamp (by omega)]; exact hm _ (by omega))) rfl ?_
    refine jy_iconst (pc' := 18) (v := (-1)) F dX12_wrongPlace_17 (by decide) rfl ?_
    refine jy_icmp_ne (pc' := 21) (tgt := 25) F dX12_wrongPlace_18 (by decide) rfl (fun h => absurd h (by decide)) (fun _ => ?_)
    refine jy_iconst (pc' := 22) (v := 2) F dX12_wrongPlace_21 (by decide) rfl ?_
    refine jy_goto (tgt := 44) F dX12_wrongPlace_22 (by decide) ?_
    exact jy_iretS (v := 2) F hr hlk (Or.inr ⟨rfl, trivial⟩) dX12_wrongPlace_44
  · subst z_5
    refine jy_if_ne (pc' := 7) (tgt := 11) F dX12_wrongPlace_4 (by decide) rfl (fun h => absurd h (by decide)) (fun _ => ?_)
    refine jy_iconst (pc' := 8) (v := 1) F dX12_wrongPlace_7 (by decide) rfl ?_
    refine jy_goto (tgt := 44) F dX12_wrongPlace_8 (by decide) ?_
    exact jy_iretS (v := 1) F hr hlk (Or.inl ⟨rfl, trivial⟩) dX12_wrongPlace_44
