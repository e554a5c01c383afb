abbrev cX12_ahead : ByteArray := prog_14_method_24_code
def yX12_ahead : MethodName := ⟨RX12, "ahead", "()V"⟩
theorem hdX12_ahead : yX12_ahead.cls ≠ "java/lang/invoke/MethodHandle" ∧ yX12_ahead.cls ≠ "java/lang/invoke/VarHandle" ∧ (parseMethodDescriptor yX12_ahead.desc).map (fun d => d.parameters.length) = some 0 := by decide +kernel
theorem dX12_ahead_0 : decode cX12_ahead 0 = .ok (.aload_n 0, 1) := by decide +kernel
theorem dX12_ahead_1 : decode cX12_ahead 1 = .ok (.aload_n 0, 1) := by decide +kernel
theorem dX12_ahead_2 : decode cX12_ahead 2 = .ok (.getfield 156, 3) := by decide +kernel
theorem dX12_ahead_5 : decode cX12_ahead 5 = .ok (.invokevirtual 159, 3) := by decide +kernel
theorem dX12_ahead_8 : decode cX12_ahead 8 = .ok (.bipush 32, 2) := by decide +kernel
theorem dX12_ahead_10 : decode cX12_ahead 10 = .ok (.if_icmp .eq 16, 3) := by decide +kernel
theorem dX12_ahead_13 : decode cX12_ahead 13 = .ok (.aload_n 0, 1) := by decide +kernel
theorem dX12_ahead_14 : decode cX12_ahead 14 = .ok (.aload_n 0, 1) := by decide +kernel
theorem dX12_ahead_15 : decode cX12_ahead 15 = .ok (.getfield 156, 3) := by decide +kernel
theorem dX12_ahead_18 : decode cX12_ahead 18 = .ok (.invokevirtual 159, 3) := by decide +kernel
theorem dX12_ahead_21 : decode cX12_ahead 21 = .ok (.bipush 10, 2) := by decide +kernel
theorem dX12_ahead_23 : decode cX12_ahead 23 = .ok (.if_icmp .ne 16, 3) := by decide +kernel
theorem dX12_ahead_39 : decode cX12_ahead 39 = .ok (.aload_n 0, 1) := by decide +kernel
theorem dX12_ahead_40 : decode cX12_ahead 40 = .ok (.aload_n 0, 1) := by decide +kernel
theorem dX12_ahead_41 : decode cX12_ahead 41 = .ok (.getfield 156, 3) := by decide +kernel
theorem dX12_ahead_44 : decode cX12_ahead 44 = .ok (.putfield 162, 3) := by decide +kernel
theorem dX12_ahead_47 : decode cX12_ahead 47 = .ok (.aload_n 0, 1) := by decide +kernel
theorem dX12_ahead_48 : decode cX12_ahead 48 = .ok (.aload_n 0, 1) := by decide +kernel
theorem dX12_ahead_49 : decode cX12_ahead 49 = .ok (.getfield 156, 3) := by decide +kernel
theorem dX12_ahead_52 : decode cX12_ahead 52 = .ok (.invokevirtual 159, 3) := by decide +kernel
theorem dX12_ahead_55 : decode cX12_ahead 55 = .ok (.istore_n 1, 1) := by decide +kernel
theorem dX12_ahead_56 : decode cX12_ahead 56 = .ok (.aload_n 0, 1) := by decide +kernel
theorem dX12_ahead_57 : decode cX12_ahead 57 = .ok (.iload_n 1, 1) := by decide +kernel
theorem dX12_ahead_58 : decode cX12_ahead 58 = .ok (.putfield 165, 3) := by decide +kernel
theorem dX12_ahead_61 : decode cX12_ahead 61 = .ok (.iload_n 1, 1) := by decide +kernel
theorem dX12_ahead_62 : decode cX12_ahead 62 = .ok (.iconst (-1), 1) := by decide +kernel
theorem dX12_ahead_63 : decode cX12_ahead 63 = .ok (.if_icmp .ne 11, 3) := by decide +kernel
theorem dX12_ahead_66 : decode cX12_ahead 66 = .ok (.aload_n 0, 1) := by decide +kernel
theorem dX12_ahead_67 : decode cX12_ahead 67 = .ok (.iconst 0, 1) := by decide +kernel
theorem dX12_ahead_68 : decode cX12_ahead 68 = .ok (.putfield 168, 3) := by decide +kernel
theorem dX12_ahead_71 : decode cX12_ahead 71 = .ok (.goto 162, 3) := by decide +kernel
theorem dX12_ahead_233 : decode cX12_ahead 233 = .ok (.return_, 1) := by decide +kernel
def ws_c_X12_ahead : List Cond := .code yX12_ahead cX12_ahead 2 none :: ([.fieldLink "NestedCheckerModel" 156 "NestedCheckerModel" "end" "I", .code ⟨"NestedCheckerModel", "byteAt", "(I)I"⟩ cX12_byteAt 2 (some .int), .fieldLink "NestedCheckerModel" 153 "NestedCheckerModel" "size" "I", .initialized "NestedCheckerModel", .instanceMethod ⟨"NestedCheckerModel", "byteAt", "(I)I"⟩, .selects "NestedCheckerModel" ⟨"NestedCheckerModel", "byteAt", "(I)I"⟩ ⟨"NestedCheckerModel", "byteAt", "(I)I"⟩, .methodLink "NestedCheckerModel" 159 ⟨"NestedCheckerModel", "byteAt", "(I)I"⟩, .fieldLink "NestedCheckerModel" 162 "NestedCheckerModel" "from" "I", .fieldLink "NestedCheckerModel" 165 "NestedCheckerModel" "value" "I", .fieldLink "NestedCheckerModel" 168 "NestedCheckerModel" "token" "I"] ++ wsX120)
set_option maxRecDepth 20000 in
theorem g_c_X12_ahead_c_X12_byteAt : GoodIn ws_c_X12_ahead ws_c_X12_byteAt := goodIn_r _ [2, 3, 11, 12, 13, 14, 15, 16, 17, 18, 19, 20, 21, 22, 23, 24, 25, 26, 27, 28, 29, 30, 31, 32, 33, 34, 35, 36, 37, 38, 39, 40, 41, 42, 43, 44, 45, 46, 47, 48, 49, 50, 51, 52, 53, 54, 55, 56, 57, 58, 59, 60, 61] (by decide +kernel) (by decide +kernel)
set_option maxHeartbeats 4000000 in
set_option maxRecDepth 100000 in
theorem c_X12_ahead (l : Launch) (D : va_G) (k : jK) (m0 : Nat) (b1 : Nat) (b2 : Nat) (b3 : Nat) (b4 : Nat) (b5 : Nat) (b6 : Nat) (b7 : Nat) (w0 : Nat) (w1 : Nat) (w2 : Nat) (w3 : Nat) (w4 : Nat) (w5 : Nat) (w6 : Nat) (w7 : Nat) (w8 : Nat) (w9 : Nat) (w10 : Nat) (w11 : Nat) (w12 : Nat) (w13 : Nat) (w14 : Nat) (w15 : Nat) (w16 : Nat) (w17 : Nat) (w18 : Nat) (w19 : Nat) (w20 : Nat) (w21 : Nat) (w22 : Nat) (sz : Nat)  : Met l yX12_ahead ws_c_X12_ahead ({ frames := 1, cells := 0, slots := 0, locals := 21 }) (jy_P [.ref m0] D vwCl (jT k) jW [(m0, .inr (11, [.ref b1, .ref b2, .int 0, .long 0, .long 1, .ref b3, .ref b4, .ref b5, .ref b6, .ref b7, .int 0, .int 0, .int 0, .int 0, .int 0, .int 0, .int (-1), .int (-1), .int 0, .int 0, .ref w0, .ref w1, .ref w2, .ref w3, .ref w4, .ref w5, .ref w6, .ref w7, .ref w8, .ref w9, .int 0, .int 0, .int 0, .ref w10, .ref w11, .int 0, .ref w12, .ref w13, .ref w14, .ref w15, .ref w16, .ref w17, .ref w18, .ref w19, .ref w20, .int 0, .ref w21, .ref w22, .int 0, .int 0, .int 0]))] sz) (va_Qv (fun (u : Unit) => True) (jy_B D vwCl (va_A [(m0, .inr (11, [.ref b1, .ref b2, .int 0, .long 0, .long 1, .ref b3, .ref b4, .ref b5, .ref b6, .ref b7, .int 0, .int 0, .int 0, .int 0, .int 0, .int 0, .int (-1), .int (-1), .int 0, .int 0, .ref w0, .ref w1, .ref w2, .ref w3, .ref w4, .ref w5, .ref w6, .ref w7, .ref w8, .ref w9, .int 0, .int 0, .int 0, .ref w10, .ref w11, .int 0, .ref w12, .ref w13, .ref w14, .ref w15, .ref w16, .ref w17, .ref w18, .ref w19, .ref w20, .int 0, .ref w21, .ref w22, .int 0, .int 0, .int 0]))] sz) (fun (u : Unit) => [(m0, .inr (11, [.ref b1, .ref b2, .int 0, .long 0, .long 1, .ref b3, .ref b4, .ref b5, .ref b6, .ref b7, .int 0, .int 0, .int 0, .int 0, .int 0, .int (-1), .int (-1), .int (-1), .int 0, .int 0, .ref w0, .ref w1, .ref w2, .ref w3, .ref w4, .ref w5, .ref w6, .ref w7, .ref w8, .ref w9, .int 0, .int 0, .int 0, .ref w10, .ref w11, .int 0, .ref w12, .ref w13, .ref w14, .ref w15, .ref w16, .ref w17, .ref w18, .ref w19, .ref w20, .int 0, .ref w21, .ref w22, .int 0, .int 0, .int 0]))])) (va_A [(m0, .inr (11, [.ref b1, .ref b2, .int 0, .long 0, .long 1, .ref b3, .ref b4, .ref b5, .ref b6, .ref b7, .int 0, .int 0, .int 0, .int 0, .int 0, .int 0, .int (-1), .int (-1), .int 0, .int 0, .ref w0, .ref w1, .ref w2, .ref w3, .ref w4, .ref w5, .ref w6, .ref w7, .ref w8, .ref w9, .int 0, .int 0, .int 0, .ref w10, .ref w11, .int 0, .ref w12, .ref w13, .ref w14, .ref w15, .ref w16, .ref w17, .ref w18, .ref w19, .ref w20, .int 0, .ref w21, .ref w22, .int 0, .int 0, .int 0]))] sz)) 0 0 (va_A [(m0, .inr (11, [.ref b1, .ref b2, .int 0, .long 0, .long 1, .ref b3, .ref b4, .ref b5, .ref b6, .ref b7, .int 0, .int 0, .int 0, .int 0, .int 0, .int 0, .int (-1), .int (-1), .int 0, .int 0, .ref w0, .ref w1, .ref w2, .ref w3, .ref w4, .ref w5, .ref w6, .ref w7, .ref w8, .ref w9, .int 0, .int 0, .int 0, .ref w10, .ref w11, .int 0, .ref w12, .ref w13, .ref w14, .ref w15, .ref w16, .ref w17, .ref w18, .ref w19, .ref w20, .int 0, .ref w21, .ref w22, .int 0, .int 0, .int 0]))] sz) := by
  refine jy_met (cc := cX12_ahead) (maxL := 2) (ret := none) (lv := [(0, .ref m0)]) (by decide) rfl (Nat.le_of_ble_eq_true rfl) rfl ?_
  intro p e s m below meth c F hr hlk hnm hN hA
  have hiX12 : ∀ w ∈ u_ws RX12 TX12 51, w ∈ ws_c_X12_ahead := fun w hw => List.mem_cons_of_mem _ (List.mem_append_right _ hw)
  refine jy_aload_n (pc' := 1) F 0 dX12_ahead_0 rfl rfl rfl ?_
  refine jy_aload_n (pc' := 2) F 0 dX12_ahead_1 rfl rfl rfl ?_
  refine jy_get (pc' := 5) (C := RX12) (T := TX12) (N := 51) (ci := 11) (v := .int 0) F hiX12 0 rfl rfl 14 (by decide) dX12_ahead_2 (List.mem_of_getElem? (i := 1) rfl) rfl rfl ?_
  refine jy_callSi (pc' := 8) (jy_runV (As := [.int 0]) (b := m0) (q0 := 0) (ci := 11) (C := RX12) (T := TX12) (N := 51) (st := []) F hN (fun sz => c_X12_byteAt l D k m0 b1 b2 b3 b4 b5 b6 b7 w0 w1 w2 w3 w4 w5 w6 w7 w8 w9 w10 w11 w12 w13 w14 w15 w16 w17 w18 w19 w20 w21 w22 sz ) (jy_cV F g_c_X12_ahead_c_X12_byteAt rfl hdX12_byteAt (List.mem_of_getElem? (i := 4) rfl) (List.mem_of_getElem? (i := 7) rfl) (List.mem_of_getElem? (i := 5) rfl) (List.mem_of_getElem? (i := 6) rfl) rfl rfl ⟨by decide, by decide⟩) rfl rfl [0] rfl (by decide) rfl rfl (Nat.le_of_ble_eq_true rfl) dX12_ahead_5 ⟨by decide, by decide⟩) rfl (fun r_1 e_2 => ?_)
  subst e_2
  refine jy_bipush (pc' := 10) (v := 32) F dX12_ahead_8 (by decide) rfl ?_
  refine jy_icmp_eq (pc' := 13) (tgt := 26) F dX12_ahead_10 (by decide) rfl (fun h => absurd h (by decide)) (fun _ => ?_)
  refine jy_aload_n (pc' := 14) F 0 dX12_ahead_13 rfl rfl rfl ?_
  refine jy_aload_n (pc' := 15) F 0 dX12_ahead_14 rfl rfl rfl ?_
  refine jy_get (pc' := 18) (C := RX12) (T := TX12) (N := 51) (ci := 11) (v := .int 0) F hiX12 0 rfl rfl 14 (by decide) dX12_ahead_15 (List.mem_of_getElem? (i := 1) rfl) rfl rfl ?_
  refine jy_callSi (pc' := 21) (jy_runV (As := [.int 0]) (b := m0) (q0 := 0) (ci := 11) (C := RX12) (T := TX12) (N := 51) (st := []) F hN (fun sz => c_X12_byteAt l D k m0 b1 b2 b3 b4 b5 b6 b7 w0 w1 w2 w3 w4 w5 w6 w7 w8 w9 w10 w11 w12 w13 w14 w15 w16 w17 w18 w19 w20 w21 w22 sz ) (jy_cV F g_c_X12_ahead_c_X12_byteAt rfl hdX12_byteAt (List.mem_of_getElem? (i := 4) rfl) (List.mem_of_getElem? (i := 7) rfl) (List.mem_of_getElem? (i := 5) rfl) (List.mem_of_getElem? (i := 6) rfl) rfl rfl ⟨by decide, by decide⟩) rfl rfl [0] rfl (by decide) rfl rfl (Nat.le_of_ble_eq_true rfl) dX12_ahead_18 ⟨by decide, by decide⟩) rfl (fun r_4 e_5 => ?_)
  subst e_5
  refine jy_bipush (pc' := 23) (v := 10) F dX12_ahead_21 (by decide) rfl ?_
  refine jy_icmp_ne (pc' := 26) (tgt := 39) F dX12_ahead_23 (by decide) rfl (fun _ => ?_) (fun h => absurd h (by decide))
  refine jy_aload_n (pc' := 40) F 0 dX12_ahead_39 rfl rfl rfl ?_
  refine jy_aload_n (pc' := 41) F 0 dX12_ahead_40 rfl rfl rfl ?_
  refine jy_get (pc' := 44) (C := RX12) (T := TX12) (N := 51) (ci := 11) (v := .int 0) F hiX12 0 rfl rfl 14 (by decide) dX12_ahead_41 (List.mem_of_getElem? (i := 1) rfl) rfl rfl ?_
  refine jy_put (pc' := 47) (C := RX12) (T := TX12) (N := 51) (ci := 11) (ws' := [(m0, .inr (11, [.ref b1, .ref b2, .int 0, .long 0, .long 1, .ref b3, .ref b4, .ref b5, .ref b6, .ref b7, .int 0, .int 0, .int 0, .int 0, .int 0, .int 0, .int (-1), .int (-1), .int 0, .int 0, .ref w0, .ref w1, .ref w2, .ref w3, .ref w4, .ref w5, .ref w6, .ref w7, .ref w8, .ref w9, .int 0, .int 0, .int 0, .ref w10, .ref w11, .int 0, .ref w12, .ref w13, .ref w14, .ref w15, .ref w16, .ref w17, .ref w18, .ref w19, .ref w20, .int 0, .ref w21, .ref w22, .int 0, .int 0, .int 0]))]) F hiX12 tyX12 tyX12_ok nmX12 0 rfl rfl 13 (by decide) dX12_ahead_44 (List.mem_of_getElem? (i := 8) rfl) rfl rfl rfl rfl (Nat.le_of_ble_eq_true rfl) rfl rfl ?_
  refine jy_aload_n (pc' := 48) F 0 dX12_ahead_47 rfl rfl rfl ?_
  refine jy_aload_n (pc' := 49) F 0 dX12_ahead_48 rfl rfl rfl ?_
  refine jy_get (pc' := 52) (C := RX12) (T := TX12) (N := 51) (ci := 11) (v := .int 0) F hiX12 0 rfl rfl 14 (by decide) dX12_ahead_49 (List.mem_of_getElem? (i := 1) rfl) rfl rfl ?_
  refine jy_callSi (pc' := 55) (jy_runV (As := [.int 0]) (b := m0) (q0 := 0) (ci := 11) (C := RX12) (T := TX12) (N := 51) (st := []) F hN (fun sz => c_X12_byteAt l D k m0 b1 b2 b3 b4 b5 b6 b7 w0 w1 w2 w3 w4 w5 w6 w7 w8 w9 w10 w11 w12 w13 w14 w15 w16 w17 w18 w19 w20 w21 w22 sz ) (jy_cV F g_c_X12_ahead_c_X12_byteAt rfl hdX12_byteAt (List.mem_of_getElem? (i := 4) rfl) (List.mem_of_getElem? (i := 7) rfl) (List.mem_of_getElem? (i := 5) rfl) (List.mem_of_getElem? (i := 6) rfl) rfl rfl ⟨by decide, by decide⟩) rfl rfl [0] rfl (by decide) rfl rfl (Nat.le_of_ble_eq_true rfl) dX12_ahead_52 ⟨by decide, by decide⟩) rfl (fun r_7 e_8 => ?_)
  subst e_8
  refine jy_istore_n (pc' := 56) (lv' := [(1, .int (-1)), (0, .ref m0)]) F dX12_ahead_55 rfl (by decide) rfl rfl ?_
  refine jy_aload_n (pc' := 57) F 1 dX12_ahead_56 rfl rfl rfl ?_
  refine jy_iload_n (pc' := 58) F 0 dX12_ahead_57 rfl rfl rfl ?_
  refine jy_put (pc' := 61) (C := RX12) (T := TX12) (N := 51) (ci := 11) (ws' := [(m0, .inr (11, [.ref b1, .ref b2, .int 0, .long 0, .long 1, .ref b3, .ref b4, .ref b5, .ref b6, .ref b7, .int 0, .int 0, .int 0, .int 0, .int 0, .int (-1), .int (-1), .int (-1), .int 0, .int 0, .ref w0, .ref w1, .ref w2, .ref w3, .ref w4, .ref w5, .ref w6, .ref w7, .ref w8, .ref w9, .int 0, .int 0, .int 0, .ref w10, .ref w11, .int 0, .ref w12, .ref w13, .ref w14, .ref w15, .ref w16, .ref w17, .ref w18, .ref w19, .ref w20, .int 0, .ref w21, .ref w22, .int 0, .int 0, .int 0]))]) F hiX12 tyX12 tyX12_ok nmX12 0 rfl rfl 15 (by decide) dX12_ahead_58 (List.mem_of_getElem? (i := 9) rfl) rfl rfl rfl rfl (Nat.le_of_ble_eq_true rfl) rfl rfl ?_
  refine jy_iload_n (pc' := 62) F 0 dX12_ahead_61 rfl rfl rfl ?_
  refine jy_iconst (pc' := 63) (v := (-1)) F dX12_ahead_62 (by decide) rfl ?_
  refine jy_icmp_ne (pc' := 66) (tgt := 74) F dX12_ahead_63 (by decide) rfl (fun h => absurd h (by decide)) (fun _ => ?_)
  refine jy_aload_n (pc' := 67) F 1 dX12_ahead_66 rfl rfl rfl ?_
  refine jy_iconst (pc' := 68) (v := 0) F dX12_ahead_67 (by decide) rfl ?_
  refine jy_put (pc' := 71) (C := RX12) (T := TX12) (N := 51) (ci := 11) (ws' := [(m0, .inr (11, [.ref b1, .ref b2, .int 0, .long 0, .long 1, .ref b3, .ref b4, .ref b5, .ref b6, .ref b7, .int 0, .int 0, .int 0, .int 0, .int 0, .int (-1), .int (-1), .int (-1), .int 0, .int 0, .ref w0, .ref w1, .ref w2, .ref w3, .ref w4, .ref w5, .ref w6, .ref w7, .ref w8, .ref w9, .int 0, .int 0, .int 0, .ref w10, .ref w11, .int 0, .ref w12, .ref w13, .ref w14, .ref w15, .ref w16, .ref w17, .ref w18, .ref w19, .ref w20, .int 0, .ref w21, .ref w22, .int 0, .int 0, .int 0]))]) F hiX12 tyX12 tyX12_ok nmX12 0 rfl rfl 12 (by decide) dX12_ahead_68 (List.mem_of_getElem? (i := 10) rfl) rfl rfl rfl rfl (Nat.le_of_ble_eq_true rfl) rfl rfl ?_
  refine jy_goto (tgt := 233) F dX12_ahead_71 (by decide) ?_
  refine jy_widen (cells' := 0) (slots' := 0) (by decide) (by decide) ?_
  exact jy_vret F hr hlk () (trivial) [0] rfl (by decide) dX12_ahead_233
abbrev cX12_begins : ByteArray := prog_14_method_28_code
def yX12_begins : MethodName := ⟨RX12, "begins", "(II)Z"⟩
theorem hdX12_begins : yX12_begins.cls ≠ "java/lang/invoke/MethodHandle" ∧ yX12_begins.cls ≠ "java/lang/invoke/VarHandle" ∧ (parseMethodDescriptor yX12_begins.desc).map (fun d => d.parameters.length) = some 2 := by decide +kernel
theorem dX12_begins_0 : decode cX12_begins 0 = .ok (.iload_n 1, 1) := by decide +kernel
theorem dX12_begins_1 : decode cX12_begins 1 = .ok (.ifCond .lt 16, 3) := by decide +kernel
theorem dX12_begins_4 : decode cX12_begins 4 = .ok (.iload_n 1, 1) := by decide +kernel
theorem dX12_begins_5 : decode cX12_begins 5 = .ok (.aload_n 0, 1) := by decide +kernel
theorem dX12_begins_6 : decode cX12_begins 6 = .ok (.getfield 147, 3) := by decide +kernel
theorem dX12_begins_9 : decode cX12_begins 9 = .ok (.if_icmp .gt 8, 3) := by decide +kernel
theorem dX12_begins_12 : decode cX12_begins 12 = .ok (.iload_n 1, 1) := by decide +kernel
theorem dX12_begins_13 : decode cX12_begins 13 = .ok (.iload_n 2, 1) := by decide +kernel
theorem dX12_begins_14 : decode cX12_begins 14 = .ok (.if_icmp .le 5, 3) := by decide +kernel
theorem dX12_begins_17 : decode cX12_begins 17 = .ok (.iconst 0, 1) := by decide +kernel
theorem dX12_begins_18 : decode cX12_begins 18 = .ok (.ireturn, 1) := by decide +kernel
theorem dX12_begins_19 : decode cX12_begins 19 = .ok (.aload_n 0, 1) := by decide +kernel
theorem dX12_begins_20 : decode cX12_begins 20 = .ok (.iload_n 1, 1) := by decide +kernel
theorem dX12_begins_21 : decode cX12_begins 21 = .ok (.putfield 153, 3) := by decide +kernel
theorem dX12_begins_24 : decode cX12_begins 24 = .ok (.iconst 0, 1) := by decide +kernel
theorem dX12_begins_25 : decode cX12_begins 25 = .ok (.istore_n 3, 1) := by decide +kernel
theorem dX12_begins_26 : decode cX12_begins 26 = .ok (.iload_n 3, 1) := by decide +kernel
theorem dX12_begins_27 : decode cX12_begins 27 = .ok (.iload_n 1, 1) := by decide +kernel
theorem dX12_begins_28 : decode cX12_begins 28 = .ok (.if_icmp .ge 21, 3) := by decide +kernel
theorem dX12_begins_49 : decode cX12_begins 49 = .ok (.aload_n 0, 1) := by decide +kernel
theorem dX12_begins_50 : decode cX12_begins 50 = .ok (.iconst 0, 1) := by decide +kernel
theorem dX12_begins_51 : decode cX12_begins 51 = .ok (.putfield 147, 3) := by decide +kernel
theorem dX12_begins_54 : decode cX12_begins 54 = .ok (.aload_n 0, 1) := by decide +kernel
theorem dX12_begins_55 : decode cX12_begins 55 = .ok (.iconst 0, 1) := by decide +kernel
theorem dX12_begins_56 : decode cX12_begins 56 = .ok (.putfield 193, 3) := by decide +kernel
theorem dX12_begins_59 : decode cX12_begins 59 = .ok (.aload_n 0, 1) := by decide +kernel
theorem dX12_begins_60 : decode cX12_begins 60 = .ok (.iconst (-1), 1) := by decide +kernel
theorem dX12_begins_61 : decode cX12_begins 61 = .ok (.putfield 41, 3) := by decide +kernel
theorem dX12_begins_64 : decode cX12_begins 64 = .ok (.aload_n 0, 1) := by decide +kernel
theorem dX12_begins_65 : decode cX12_begins 65 = .ok (.iconst 0, 1) := by decide +kernel
theorem dX12_begins_66 : decode cX12_begins 66 = .ok (.putfield 156, 3) := by decide +kernel
theorem dX12_begins_69 : decode cX12_begins 69 = .ok (.aload_n 0, 1) := by decide +kernel
theorem dX12_begins_70 : decode cX12_begins 70 = .ok (.iconst 0, 1) := by decide +kernel
theorem dX12_begins_71 : decode cX12_begins 71 = .ok (.putfield 196, 3) := by decide +kernel
theorem dX12_begins_74 : decode cX12_begins 74 = .ok (.aload_n 0, 1) := by decide +kernel
theorem dX12_begins_75 : decode cX12_begins 75 = .ok (.invokevirtual 199, 3) := by decide +kernel
theorem dX12_begins_78 : decode cX12_begins 78 = .ok (.iconst 1, 1) := by decide +kernel
theorem dX12_begins_79 : decode cX12_begins 79 = .ok (.ireturn, 1) := by decide +kernel
def ws_c_X12_begins : List Cond := .code yX12_begins cX12_begins 4 (some .boolean) :: ([.fieldLink "NestedCheckerModel" 147 "NestedCheckerModel" "taped" "I", .fieldLink "NestedCheckerModel" 153 "NestedCheckerModel" "size" "I", .fieldLink "NestedCheckerModel" 193 "NestedCheckerModel" "faults" "I", .fieldLink "NestedCheckerModel" 41 "NestedCheckerModel" "faultPlace" "I", .fieldLink "NestedCheckerModel" 156 "NestedCheckerModel" "end" "I", .fieldLink "NestedCheckerModel" 196 "NestedCheckerModel" "seen" "I", .code ⟨"NestedCheckerModel", "ahead", "()V"⟩ cX12_ahead 2 none, .code ⟨"NestedCheckerModel", "byteAt", "(I)I"⟩ cX12_byteAt 2 (some .int), .initialized "NestedCheckerModel", .instanceMethod ⟨"NestedCheckerModel", "byteAt", "(I)I"⟩, .selects "NestedCheckerModel" ⟨"NestedCheckerModel", "byteAt", "(I)I"⟩ ⟨"NestedCheckerModel", "byteAt", "(I)I"⟩, .methodLink "NestedCheckerModel" 159 ⟨"NestedCheckerModel", "byteAt", "(I)I"⟩, .fieldLink "NestedCheckerModel" 162 "NestedCheckerModel" "from" "I", .fieldLink "NestedCheckerModel" 165 "NestedCheckerModel" "value" "I", .fieldLink "NestedCheckerModel" 168 "NestedCheckerModel" "token" "I", .instanceMethod ⟨"NestedCheckerModel", "ahead", "()V"⟩, .selects "NestedCheckerModel" ⟨"NestedCheckerModel", "ahead", "()V"⟩ ⟨"NestedCheckerModel", "ahead", "()V"⟩, .methodLink "NestedCheckerModel" 199 ⟨"NestedCheckerModel", "ahead", "()V"⟩] ++ wsX120)
set_option maxRecDepth 20000 in
theorem g_c_X12_begins_c_X12_ahead : GoodIn ws_c_X12_begins ws_c_X12_ahead := goodIn_r _ [7, 5, 8, 2, 9, 10, 11, 12, 13, 14, 15, 19, 20, 21, 22, 23, 24, 25, 26, 27, 28, 29, 30, 31, 32, 33, 34, 35, 36, 37, 38, 39, 40, 41, 42, 43, 44, 45, 46, 47, 48, 49, 50, 51, 52, 53, 54, 55, 56, 57, 58, 59, 60, 61, 62, 63, 64, 65, 66, 67, 68, 69] (by decide +kernel) (by decide +kernel)
set_option maxHeartbeats 4000000 in
set_option maxRecDepth 100000 in
theorem c_X12_begins (l : Launch) (D : va_G) (k : jK) (m0 : Nat) (b1 : Nat) (b2 : Nat) (b3 : Nat) (b4 : Nat) (b5 : Nat) (b6 : Nat) (b7 : Nat) (w0 : Nat) (w1 : Nat) (w2 : Nat) (w3 : Nat) (w4 : Nat) (w5 : Nat) (w6 : Nat) (w7 : Nat) (w8 : Nat) (w9 : Nat) (w10 : Nat) (w11 : Nat) (w12 : Nat) (w13 : Nat) (w14 : Nat) (w15 : Nat) (w16 : Nat) (w17 : Nat) (w18 : Nat) (w19 : Nat) (w20 : Nat) (w21 : Nat) (w22 : Nat) (i1 : Int32) (sz : Nat)  : Met l yX12_begins ws_c_X12_begins ({ frames := 2, cells := 0, slots := 0, locals := 42 }) (jy_P [.ref m0, .int i1, .int 900] D vwCl (jT k) jW [(m0, .inr (11, [.ref b1, .ref b2, .int 0, .long 0, .long 1, .ref b3, .ref b4, .ref b5, .ref b6, .ref b7, .int 0, .int 0, .int 0, .int 0, .int 0, .int 0, .int (-1), .int (-1), .int 0, .int 0, .ref w0, .ref w1, .ref w2, .ref w3, .ref w4, .ref w5, .ref w6, .ref w7, .ref w8, .ref w9, .int 0, .int 0, .int 0, .ref w10, .ref w11, .int 0, .ref w12, .ref w13, .ref w14, .ref w15, .ref w16, .ref w17, .ref w18, .ref w19, .ref w20, .int 0, .ref w21, .ref w22, .int 0, .int 0, .int 0]))] sz) (va_Qi (fun (r : Int32) (u : Int32) => (r = 1 ∧ i1 = 0) ∨ (r = 0 ∧ ¬ i1 = 0)) (jy_B D vwCl (va_A [(m0, .inr (11, [.ref b1, .ref b2, .int 0, .long 0, .long 1, .ref b3, .ref b4, .ref b5, .ref b6, .ref b7, .int 0, .int 0, .int 0, .int 0, .int 0, .int 0, .int (-1), .int (-1), .int 0, .int 0, .ref w0, .ref w1, .ref w2, .ref w3, .ref w4, .ref w5, .ref w6, .ref w7, .ref w8, .ref w9, .int 0, .int 0, .int 0, .ref w10, .ref w11, .int 0, .ref w12, .ref w13, .ref w14, .ref w15, .ref w16, .ref w17, .ref w18, .ref w19, .ref w20, .int 0, .ref w21, .ref w22, .int 0, .int 0, .int 0]))] sz) (fun (u : Int32) => [(m0, .inr (11, [.ref b1, .ref b2, .int 0, .long 0, .long 1, .ref b3, .ref b4, .ref b5, .ref b6, .ref b7, .int 0, .int 0, .int 0, .int 0, .int 0, .int u, .int (-1), .int (-1), .int 0, .int 0, .ref w0, .ref w1, .ref w2, .ref w3, .ref w4, .ref w5, .ref w6, .ref w7, .ref w8, .ref w9, .int 0, .int 0, .int 0, .ref w10, .ref w11, .int 0, .ref w12, .ref w13, .ref w14, .ref w15, .ref w16, .ref w17, .ref w18, .ref w19, .ref w20, .int 0, .ref w21, .ref w22, .int 0, .int 0, .int 0]))])) (va_A [(m0, .inr (11, [.ref b1, .ref b2, .int 0, .long 0, .long 1, .ref b3, .ref b4, .ref b5, .ref b6, .ref b7, .int 0, .int 0, .int 0, .int 0, .int 0, .int 0, .int (-1), .int (-1), .int 0, .int 0, .ref w0, .ref w1, .ref w2, .ref w3, .ref w4, .ref w5, .ref w6, .ref w7, .ref w8, .ref w9, .int 0, .int 0, .int 0, .ref w10, .ref w11, .int 0, .ref w12, .ref w13, .ref w14, .ref w15, .ref w16, .ref w17, .ref w18, .ref w19, .ref w20, .int 0, .ref w21, .ref w22, .int 0, .int 0, .int 0]))] sz)) 0 0 (va_A [(m0, .inr (11, [.ref b1, .ref b2, .int 0, .long 0, .long 1, .ref b3, .ref b4, .ref b5, .ref b6, .ref b7, .int 0, .int 0, .int 0, .int 0, .int 0, .int 0, .int (-1), .int (-1), .int 0, .int 0, .ref w0, .ref w1, .ref w2, .ref w3, .ref w4, .ref w5, .ref w6, .ref w7, .ref w8, .ref w9, .int 0, .int 0, .int 0, .ref w10, .ref w11, .int 0, .ref w12, .ref w13, .ref w14, .ref w15, .ref w16, .ref w17, .ref w18, .ref w19, .ref w20, .int 0, .ref w21, .ref w22, .int 0, .int 0, .int 0]))] sz) := by
  refine jy_met (cc := cX12_begins) (maxL := 4) (ret := (some .boolean)) (lv := [(0, .ref m0), (1, .int i1), (2, .int 900)]) (by decide) rfl (Nat.le_of_ble_eq_true rfl) rfl ?_
  intro p e s m below meth c F hr hlk hnm hN hA
  have hiX12 : ∀ w ∈ u_ws RX12 TX12 51, w ∈ ws_c_X12_begins := fun w hw => List.mem_cons_of_mem _ (List.mem_append_right _ hw)
  refine jy_iload_n (pc' := 1) F 1 dX12_begins_0 rfl rfl rfl ?_
  refine jy_if_lt (pc' := 4) (tgt := 17) F dX12_begins_1 (by decide) rfl (fun h_1 => ?_) (fun h_1 => ?_)
  · refine jy_iconst (pc' := 18) (v := 0) F dX12_begins_17 (by decide) rfl ?_
    refine jy_widen (cells' := 0) (slots' := 0) (by decide) (by decide) ?_
    exact jy_zret (v := 0) F hr hlk (by first | rfl | decide) 0 (Or.inr ⟨rfl, fun h => by rw [h] at h_1; exact absurd h_1 (by decide)⟩) [0] rfl (by decide) dX12_begins_18
  · refine jy_iload_n (pc' := 5) F 1 dX12_begins_4 rfl rfl rfl ?_
    refine jy_aload_n (pc' := 6) F 0 dX12_begins_5 rfl rfl rfl ?_
    refine jy_get (pc' := 9) (C := RX12) (T := TX12) (N := 51) (ci := 11) (v := .int 0) F hiX12 0 rfl rfl 10 (by decide) dX12_begins_6 (List.mem_of_getElem? (i := 1) rfl) rfl rfl ?_
    refine jy_icmp_gt (pc' := 12) (tgt := 17) F dX12_begins_9 (by decide) rfl (fun h_2 => ?_) (fun h_2 => ?_)
    · refine jy_iconst (pc' := 18) (v := 0) F dX12_begins_17 (by decide) rfl ?_
      refine jy_widen (cells' := 0) (slots' := 0) (by decide) (by decide) ?_
      exact jy_zret (v := 0) F hr hlk (by first | rfl | decide) 0 (Or.inr ⟨rfl, fun h => by rw [h] at h_2; exact absurd h_2 (by decide)⟩) [0] rfl (by decide) dX12_begins_18
    · refine jy_iload_n (pc' := 13) F 1 dX12_begins_12 rfl rfl rfl ?_
      refine jy_iload_n (pc' := 14) F 2 dX12_begins_13 rfl rfl rfl ?_
      refine jy_icmp_le (pc' := 17) (tgt := 19) F dX12_begins_14 (by decide) rfl (fun h_3 => ?_) (fun h_3 => ?_)
      · obtain rfl : i1 = 0 := Int32.le_antisymm (Int32.not_lt.mp h_2) (Int32.not_lt.mp h_1)
        refine jy_aload_n (pc' := 20) F 0 dX12_begins_19 rfl rfl rfl ?_
        refine jy_iload_n (pc' := 21) F 1 dX12_begins_20 rfl rfl rfl ?_
        refine jy_put (pc' := 24) (C := RX12) (T := TX12) (N := 51) (ci := 11) (ws' := [(m0, .inr (11, [.ref b1, .ref b2, .int 0, .long 0, .long 1, .ref b3, .ref b4, .ref b5, .ref b6, .ref b7, .int 0, .int 0, .int 0, .int 0, .int 0, .int 0, .int (-1), .int (-1), .int 0, .int 0, .ref w0, .ref w1, .ref w2, .ref w3, .ref w4, .ref w5, .ref w6, .ref w7, .ref w8, .ref w9, .int 0, .int 0, .int 0, .ref w10, .ref w11, .int 0, .ref w12, .ref w13, .ref w14, .ref w15, .ref w16, .ref w17, .ref w18, .ref w19, .ref w20, .int 0, .ref w21, .ref w22, .int 0, .int 0, .int 0]))]) F hiX12 tyX12 tyX12_ok nmX12 0 rfl rfl 11 (by decide) dX12_begins_21 (List.mem_of_getElem? (i := 2) rfl) rfl rfl rfl rfl (Nat.le_of_ble_eq_true rfl) rfl rfl ?_
        refine jy_iconst (pc' := 25) (v := 0) F dX12_begins_24 (by decide) rfl ?_
        refine jy_istore_n (pc' := 26) (lv' := [(3, .int 0), (0, .ref m0), (1, .int 0), (2, .int 900)]) F dX12_begins_25 rfl (by decide) rfl rfl ?_
        refine jy_iload_n (pc' := 27) F 0 dX12_begins_26 rfl rfl rfl ?_
        refine jy_iload_n (pc' := 28) F 2 dX12_begins_27 rfl rfl rfl ?_
        refine jy_icmp_ge (pc' := 31) (tgt := 49) F dX12_begins_28 (by decide) rfl (fun _ => ?_) (fun h => absurd h (by decide))
        refine jy_aload_n (pc' := 50) F 1 dX12_begins_49 rfl rfl rfl ?_
        refine jy_iconst (pc' := 51) (v := 0) F dX12_begins_50 (by decide) rfl ?_
        refine jy_put (pc' := 54) (C := RX12) (T := TX12) (N := 51) (ci := 11) (ws' := [(m0, .inr (11, [.ref b1, .ref b2, .int 0, .long 0, .long 1, .ref b3, .ref b4, .ref b5, .ref b6, .ref b7, .int 0, .int 0, .int 0, .int 0, .int 0, .int 0, .int (-1), .int (-1), .int 0, .int 0, .ref w0, .ref w1, .ref w2, .ref w3, .ref w4, .ref w5, .ref w6, .ref w7, .ref w8, .ref w9, .int 0, .int 0, .int 0, .ref w10, .ref w11, .int 0, .ref w12, .ref w13, .ref w14, .ref w15, .ref w16, .ref w17, .ref w18, .ref w19, .ref w20, .int 0, .ref w21, .ref w22, .int 0, .int 0, .int 0]))]) F hiX12 tyX12 tyX12_ok nmX12 0 rfl rfl 10 (by decide) dX12_begins_51 (List.mem_of_getElem? (i := 1) rfl) rfl rfl rfl rfl (Nat.le_of_ble_eq_true rfl) rfl rfl ?_
        refine jy_aload_n (pc' := 55) F 1 dX12_begins_54 rfl rfl rfl ?_
        refine jy_iconst (pc' := 56) (v := 0) F dX12_begins_55 (by decide) rfl ?_
        refine jy_put (pc' := 59) (C := RX12) (T := TX12) (N := 51) (ci := 11) (ws' := [(m0, .inr (11, [.ref b1, .ref b2, .int 0, .long 0, .long 1, .ref b3, .ref b4, .ref b5, .ref b6, .ref b7, .int 0, .int 0, .int 0, .int 0, .int 0, .int 0, .int (-1), .int (-1), .int 0, .int 0, .ref w0, .ref w1, .ref w2, .ref w3, .ref w4, .ref w5, .ref w6, .ref w7, .ref w8, .ref w9, .int 0, .int 0, .int 0, .ref w10, .ref w11, .int 0, .ref w12, .ref w13, .ref w14, .ref w15, .ref w16, .ref w17, .ref w18, .ref w19, .ref w20, .int 0, .ref w21, .ref w22, .int 0, .int 0, .int 0]))]) F hiX12 tyX12 tyX12_ok nmX12 0 rfl rfl 18 (by decide) dX12_begins_56 (List.mem_of_getElem? (i := 3) rfl) rfl rfl rfl rfl (Nat.le_of_ble_eq_true rfl) rfl rfl ?_
        refine jy_aload_n (pc' := 60) F 1 dX12_begins_59 rfl rfl rfl ?_
        refine jy_iconst (pc' := 61) (v := (-1)) F dX12_begins_60 (by decide) rfl ?_
        refine jy_put (pc' := 64) (C := RX12) (T := TX12) (N := 51) (ci := 11) (ws' := [(m0, .inr (11, [.ref b1, .ref b2, .int 0, .long 0, .long 1, .ref b3, .ref b4, .ref b5, .ref b6, .ref b7, .int 0, .int 0, .int 0, .int 0, .int 0, .int 0, .int (-1), .int (-1), .int 0, .int 0, .ref w0, .ref w1, .ref w2, .ref w3, .ref w4, .ref w5, .ref w6, .ref w7, .ref w8, .ref w9, .int 0, .int 0, .int 0, .ref w10, .ref w11, .int 0, .ref w12, .ref w13, .ref w14, .ref w15, .ref w16, .ref w17, .ref w18, .ref w19, .ref w20, .int 0, .ref w21, .ref w22, .int 0, .int 0, .int 0]))]) F hiX12 tyX12 tyX12_ok nmX12 0 rfl rfl 17 (by decide) dX12_begins_61 (List.mem_of_getElem? (i := 4) rfl) rfl rfl rfl rfl (Nat.le_of_ble_eq_true rfl) rfl rfl ?_
        refine jy_aload_n (pc' := 65) F 1 dX12_begins_64 rfl rfl rfl ?_
        refine jy_iconst (pc' := 66) (v := 0) F dX12_begins_65 (by decide) rfl ?_
        refine jy_put (pc' := 69) (C := RX12) (T := TX12) (N := 51) (ci := 11) (ws' := [(m0, .inr (11, [.ref b1, .ref b2, .int 0, .long 0, .long 1, .ref b3, .ref b4, .ref b5, .ref b6, .ref b7, .int 0, .int 0, .int 0, .int 0, .int 0, .int 0, .int (-1), .int (-1), .int 0, .int 0, .ref w0, .ref w1, .ref w2, .ref w3, .ref w4, .ref w5, .ref w6, .ref w7, .ref w8, .ref w9, .int 0, .int 0, .int 0, .ref w10, .ref w11, .int 0, .ref w12, .ref w13, .ref w14, .ref w15, .ref w16, .ref w17, .ref w18, .ref w19, .ref w20, .int 0, .ref w21, .ref w22, .int 0, .int 0, .int 0]))]) F hiX12 tyX12 tyX12_ok nmX12 0 rfl rfl 14 (by decide) dX12_begins_66 (List.mem_of_getElem? (i := 5) rfl) rfl rfl rfl rfl (Nat.le_of_ble_eq_true rfl) rfl rfl ?_
        refine jy_aload_n (pc' := 70) F 1 dX12_begins_69 rfl rfl rfl ?_
        refine jy_iconst (pc' := 71) (v := 0) F dX12_begins_70 (by decide) rfl ?_
        refine jy_put (pc' := 74) (C := RX12) (T := TX12) (N := 51) (ci := 11) (ws' := [(m0, .inr (11, [.ref b1, .ref b2, .int 0, .long 0, .long 1, .ref b3, .ref b4, .ref b5, .ref b6, .ref b7, .int 0, .int 0, .int 0, .int 0, .int 0, .int 0, .int (-1), .int (-1), .int 0, .int 0, .ref w0, .ref w1, .ref w2, .ref w3, .ref w4, .ref w5, .ref w6, .ref w7, .ref w8, .ref w9, .int 0, .int 0, .int 0, .ref w10, .ref w11, .int 0, .ref w12, .ref w13, .ref w14, .ref w15, .ref w16, .ref w17, .ref w18, .ref w19, .ref w20, .int 0, .ref w21, .ref w22, .int 0, .int 0, .int 0]))]) F hiX12 tyX12 tyX12_ok nmX12 0 rfl rfl 19 (by decide) dX12_begins_71 (List.mem_of_getElem? (i := 6) rfl) rfl rfl rfl rfl (Nat.le_of_ble_eq_true rfl) rfl rfl ?_
        refine jy_aload_n (pc' := 75) F 1 dX12_begins_74 rfl rfl rfl ?_
        refine jy_callv (pc' := 78) (cells' := 0) (slots' := 0) (wr := []) hA [0] [] rfl rfl (by decide) (by decide) (jy_runV (As := []) (b := m0) (q0 := 0) (ci := 11) (C := RX12) (T := TX12) (N := 51) (st := []) F hN (fun sz => c_X12_ahead l D k m0 b1 b2 b3 b4 b5 b6 b7 w0 w1 w2 w3 w4 w5 w6 w7 w8 w9 w10 w11 w12 w13 w14 w15 w16 w17 w18 w19 w20 w21 w22 sz ) (jy_cV F g_c_X12_begins_c_X12_ahead rfl hdX12_ahead (List.mem_of_getElem? (i := 9) rfl) (List.mem_of_getElem? (i := 18) rfl) (List.mem_of_getElem? (i := 16) rfl) (List.mem_of_getElem? (i := 17) rfl) rfl rfl ⟨by decide, by decide⟩) rfl rfl [0] rfl (by decide) rfl rfl (Nat.le_of_ble_eq_true rfl) dX12_begins_75 ⟨by decide, by decide⟩) rfl rfl rfl (fun u_5 e_6 => ?_)
        refine jy_iconst (pc' := 79) (v := 1) F dX12_begins_78 (by decide) rfl ?_
        refine jy_widen (cells' := 0) (slots' := 0) (by decide) (by decide) ?_
        exact jy_zret (v := 1) F hr hlk (by first | rfl | decide) (-1) (Or.inl ⟨rfl, rfl⟩) [0] rfl (by decide) dX12_begins_79
      · refine jy_iconst (pc' := 18) (v := 0) F dX12_begins_17 (by decide) rfl ?_
        refine jy_widen (cells' := 0) (slots' := 0) (by decide) (by decide) ?_
        exact jy_zret (v := 0) F hr hlk (by first | rfl | decide) 0 (Or.inr ⟨rfl, fun h => by rw [h] at h_3; exact absurd (by decide) h_3⟩) [0] rfl (by decide) dX12_begins_18
abbrev cX12_taken : ByteArray := prog_14_method_36_code
def yX12_taken : MethodName := ⟨RX12, "taken", "(I)I"⟩
theorem hdX12_taken : yX12_taken.cls ≠ "java/lang/invoke/MethodHandle" ∧ yX12_taken.cls ≠ "java/lang/invoke/VarHandle" ∧ (parseMethodDescriptor yX12_taken.desc).map (fun d => d.parameters.length) = some 1 := by decide +kernel
theorem dX12_taken_0 : decode cX12_taken 0 = .ok (.aload_n 0, 1) := by decide +kernel
theorem dX12_taken_1 : decode cX12_taken 1 = .ok (.aload_n 0, 1) := by decide +kernel
theorem dX12_taken_2 : decode cX12_taken 2 = .ok (.getfield 193, 3) := by decide +kernel
theorem dX12_taken_5 : decode cX12_taken 5 = .ok (.putfield 37, 3) := by decide +kernel
theorem dX12_taken_8 : decode cX12_taken 8 = .ok (.aload_n 0, 1) := by decide +kernel
theorem dX12_taken_9 : decode cX12_taken 9 = .ok (.getfield 193, 3) := by decide +kernel
theorem dX12_taken_12 : decode cX12_taken 12 = .ok (.ifCond .le 12, 3) := by decide +kernel
theorem dX12_taken_24 : decode cX12_taken 24 = .ok (.aload_n 0, 1) := by decide +kernel
theorem dX12_taken_25 : decode cX12_taken 25 = .ok (.iload_n 1, 1) := by decide +kernel
theorem dX12_taken_26 : decode cX12_taken 26 = .ok (.invokevirtual 127, 3) := by decide +kernel
theorem dX12_taken_29 : decode cX12_taken 29 = .ok (.ireturn, 1) := by decide +kernel
def ws_c_X12_taken : List Cond := .code yX12_taken cX12_taken 2 (some .int) :: ([.fieldLink "NestedCheckerModel" 193 "NestedCheckerModel" "faults" "I", .fieldLink "NestedCheckerModel" 37 "NestedCheckerModel" "faultKind" "I", .code ⟨"NestedCheckerModel", "gives", "(I)I"⟩ cX12_gives 2 (some .int), .fieldLink "NestedCheckerModel" 117 "NestedCheckerModel" "status" "I", .initialized "NestedCheckerModel", .instanceMethod ⟨"NestedCheckerModel", "gives", "(I)I"⟩, .selects "NestedCheckerModel" ⟨"NestedCheckerModel", "gives", "(I)I"⟩ ⟨"NestedCheckerModel", "gives", "(I)I"⟩, .methodLink "NestedCheckerModel" 127 ⟨"NestedCheckerModel", "gives", "(I)I"⟩] ++ wsX120)
set_option maxRecDepth 20000 in
theorem g_c_X12_taken_c_X12_gives : GoodIn ws_c_X12_taken ws_c_X12_gives := goodIn_r _ [3, 4, 9, 10, 11, 12, 13, 14, 15, 16, 17, 18, 19, 20, 21, 22, 23, 24, 25, 26, 27, 28, 29, 30, 31, 32, 33, 34, 35, 36, 37, 38, 39, 40, 41, 42, 43, 44, 45, 46, 47, 48, 49, 50, 51, 52, 53, 54, 55, 56, 57, 58, 59] (by decide +kernel) (by decide +kernel)
set_option maxHeartbeats 4000000 in
set_option maxRecDepth 100000 in
theorem c_X12_taken (l : Launch) (D : va_G) (k : jK) (m0 : Nat) (b1 : Nat) (b2 : Nat) (b3 : Nat) (b4 : Nat) (b5 : Nat) (b6 : Nat) (b7 : Nat) (w0 : Nat) (w1 : Nat) (w2 : Nat) (w3 : Nat) (w4 : Nat) (w5 : Nat) (w6 : Nat) (w7 : Nat) (w8 : Nat) (w9 : Nat) (w10 : Nat) (w11 : Nat) (w12 : Nat) (w13 : Nat) (w14 : Nat) (w15 : Nat) (w16 : Nat) (w17 : Nat) (w18 : Nat) (w19 : Nat) (w20 : Nat) (w21 : Nat) (w22 : Nat) (yv : Int32) (sz : Nat)  : Met l yX12_taken ws_c_X12_taken ({ frames := 1, cells := 0, slots := 0, locals := 21 }) (jy_P [.ref m0, .int 0] D vwCl (jT k) jW [(m0, .inr (11, [.ref b1, .ref b2, .int 0, .long 0, .long 1, .ref b3, .ref b4, .ref b5, .ref b6, .ref b7, .int 0, .int 0, .int 0, .int 0, .int 0, .int yv, .int (-1), .int (-1), .int 0, .int 0, .ref w0, .ref w1, .ref w2, .ref w3, .ref w4, .ref w5, .ref w6, .ref w7, .ref w8, .ref w9, .int 0, .int 0, .int 0, .ref w10, .ref w11, .int 0, .ref w12, .ref w13, .ref w14, .ref w15, .ref w16, .ref w17, .ref w18, .ref w19, .ref w20, .int 0, .ref w21, .ref w22, .int 0, .int 0, .int 0]))] sz) (va_Qi (fun (r : Int32) (u : Unit) => r = 0) (jy_B D vwCl (va_A [(m0, .inr (11, [.ref b1, .ref b2, .int 0, .long 0, .long 1, .ref b3, .ref b4, .ref b5, .ref b6, .ref b7, .int 0, .int 0, .int 0, .int 0, .int 0, .int yv, .int (-1), .int (-1), .int 0, .int 0, .ref w0, .ref w1, .ref w2, .ref w3, .ref w4, .ref w5, .ref w6, .ref w7, .ref w8, .ref w9, .int 0, .int 0, .int 0, .ref w10, .ref w11, .int 0, .ref w12, .ref w13, .ref w14, .ref w15, .ref w16, .ref w17, .ref w18, .ref w19, .ref w20, .int 0, .ref w21, .ref w22, .int 0, .int 0, .int 0]))] sz) (fun (u : Unit) => [])) (va_A [(m0, .inr (11, [.ref b1, .ref b2, .int 0, .long 0, .long 1, .ref b3, .ref b4, .ref b5, .ref b6, .ref b7, .int 0, .int 0, .int 0, .int 0, .int 0, .int yv, .int (-1), .int (-1), .int 0, .int 0, .ref w0, .ref w1, .ref w2, .ref w3, .ref w4, .ref w5, .ref w6, .ref w7, .ref w8, .ref w9, .int 0, .int 0, .int 0, .ref w10, .ref w11, .int 0, .ref w12, .ref w13, .ref w14, .ref w15, .ref w16, .ref w17, .ref w18, .ref w19, .ref w20, .int 0, .ref w21, .ref w22, .int 0, .int 0, .int 0]))] sz)) 0 0 (va_A [(m0, .inr (11, [.ref b1, .ref b2, .int 0, .long 0, .long 1, .ref b3, .ref b4, .ref b5, .ref b6, .ref b7, .int 0, .int 0, .int 0, .int 0, .int 0, .int yv, .int (-1), .int (-1), .int 0, .int 0, .ref w0, .ref w1, .ref w2, .ref w3, .ref w4, .ref w5, .ref w6, .ref w7, .ref w8, .ref w9, .int 0, .int 0, .int 0, .ref w10, .ref w11, .int 0, .ref w12, .ref w13, .ref w14, .ref w15, .ref w16, .ref w17, .ref w18, .ref w19, .ref w20, .int 0, .ref w21, .ref w22, .int 0, .int 0, .int 0]))] sz) := by
  refine jy_met (cc := cX12_taken) (maxL := 2) (ret := (some .int)) (lv := [(0, .ref m0), (1, .int 0)]) (by decide) rfl (Nat.le_of_ble_eq_true rfl) rfl ?_
  intro p e s m below meth c F hr hlk hnm hN hA
  have hiX12 : ∀ w ∈ u_ws RX12 TX12 51, w ∈ ws_c_X12_taken := fun w hw => List.mem_cons_of_mem _ (List.mem_append_right _ hw)
  refine jy_aload_n (pc' := 1) F 0 dX12_taken_0 rfl rfl rfl ?_
  refine jy_aload_n (pc' := 2) F 0 dX12_taken_1 rfl rfl rfl ?_
  refine jy_get (pc' := 5) (C := RX12) (T := TX12) (N := 51) (ci := 11) (v := .int 0) F hiX12 0 rfl rfl 18 (by decide) dX12_taken_2 (List.mem_of_getElem? (i := 1) rfl) rfl rfl ?_
  refine jy_put (pc' := 8) (C := RX12) (T := TX12) (N := 51) (ci := 11) (ws' := [(m0, .inr (11, [.ref b1, .ref b2, .int 0, .long 0, .long 1, .ref b3, .ref b4, .ref b5, .ref b6, .ref b7, .int 0, .int 0, .int 0, .int 0, .int 0, .int yv, .int 0, .int (-1), .int 0, .int 0, .ref w0, .ref w1, .ref w2, .ref w3, .ref w4, .ref w5, .ref w6, .ref w7, .ref w8, .ref w9, .int 0, .int 0, .int 0, .ref w10, .ref w11, .int 0, .ref w12, .ref w13, .ref w14, .ref w15, .ref w16, .ref w17, .ref w18, .ref w19, .ref w20, .int 0, .ref w21, .ref w22, .int 0, .int 0, .int 0]))]) F hiX12 tyX12 tyX12_ok nmX12 0 rfl rfl 16 (by decide) dX12_taken_5 (List.mem_of_getElem? (i := 2) rfl) rfl rfl rfl rfl (Nat.le_of_ble_eq_true rfl) rfl rfl ?_
  refine jy_aload_n (pc' := 9) F 0 dX12_taken_8 rfl rfl rfl ?_
  refine jy_get (pc' := 12) (C := RX12) (T := TX12) (N := 51) (ci := 11) (v := .int 0) F hiX12 0 rfl rfl 18 (by decide) dX12_taken_9 (List.mem_of_getElem? (i := 1) rfl) rfl rfl ?_
  refine jy_if_le (pc' := 15) (tgt := 24) F dX12_taken_12 (by decide) rfl (fun _ => ?_) (fun h => absurd h (by decide))
  refine jy_aload_n (pc' := 25) F 0 dX12_taken_24 rfl rfl rfl ?_
  refine jy_iload_n (pc' := 26) F 1 dX12_taken_25 rfl rfl rfl ?_
  refine jy_calli (pc' := 29) (cells' := 0) (slots' := 0) (wr := []) hA [0] [] rfl rfl (by decide) (by decide) (jy_runV (As := [.int 0]) (b := m0) (q0 := 0) (ci := 11) (C := RX12) (T := TX12) (N := 51) (st := []) F hN (fun sz => c_X12_gives l D k m0 0 (.ref b1) (.ref b2) (.long 0) (.long 1) (.ref b3) (.ref b4) (.ref b5) (.ref b6) (.ref b7) (.int 0) (.int 0) (.int 0) (.int 0) (.int 0) (.int yv) (.int 0) (.int (-1)) (.int 0) (.int 0) (.ref w0) (.ref w1) (.ref w2) (.ref w3) (.ref w4) (.ref w5) (.ref w6) (.ref w7) (.ref w8) (.ref w9) (.int 0) (.int 0) (.int 0) (.ref w10) (.ref w11) (.int 0) (.ref w12) (.ref w13) (.ref w14) (.ref w15) (.ref w16) (.ref w17) (.ref w18) (.ref w19) (.ref w20) (.int 0) (.ref w21) (.ref w22) (.int 0) (.int 0) (.int 0) 0 sz ) (jy_cV F g_c_X12_taken_c_X12_gives rfl hdX12_gives (List.mem_of_getElem? (i := 5) rfl) (List.mem_of_getElem? (i := 8) rfl) (List.mem_of_getElem? (i := 6) rfl) (List.mem_of_getElem? (i := 7) rfl) rfl rfl ⟨by decide, by decide⟩) rfl rfl [0] rfl (by decide) rfl rfl (Nat.le_of_ble_eq_true rfl) dX12_taken_26 ⟨by decide, by decide⟩) rfl rfl rfl (fun r_4 u_2 e_3 => ?_)
  subst e_3
  refine jy_widen (cells' := 0) (slots' := 0) (by decide) (by decide) ?_
  exact jy_iret (v := 0) F hr hlk () (rfl) [] rfl (by decide) dX12_taken_29
abbrev cX12_checker : ByteArray := prog_14_method_49_code
def yX12_checker : MethodName := ⟨RX12, "checker", "(I)I"⟩
theorem hdX12_checker : yX12_checker.cls ≠ "java/lang/invoke/MethodHandle" ∧ yX12_checker.cls ≠ "java/lang/invoke/VarHandle" ∧ (parseMethodDescriptor yX12_checker.desc).map (fun d => d.parameters.length) = some 1 := by decide +kernel
theorem dX12_checker_0 : decode cX12_checker 0 = .ok (.aload_n 0, 1) := by decide +kernel
theorem dX12_checker_1 : decode cX12_checker 1 = .ok (.iload_n 1, 1) := by decide +kernel
theorem dX12_checker_2 : decode cX12_checker 2 = .ok (.sipush 900, 3) := by decide +kernel
theorem dX12_checker_5 : decode cX12_checker 5 = .ok (.invokevirtual 273, 3) := by decide +kernel
theorem dX12_checker_8 : decode cX12_checker 8 = .ok (.ifCond .ne 9, 3) := by decide +kernel
theorem dX12_checker_11 : decode cX12_checker 11 = .ok (.aload_n 0, 1) := by decide +kernel
theorem dX12_checker_12 : decode cX12_checker 12 = .ok (.iconst 1, 1) := by decide +kernel
theorem dX12_checker_13 : decode cX12_checker 13 = .ok (.invokevirtual 123, 3) := by decide +kernel
theorem dX12_checker_16 : decode cX12_checker 16 = .ok (.ireturn, 1) := by decide +kernel
theorem dX12_checker_17 : decode cX12_checker 17 = .ok (.aload_n 0, 1) := by decide +kernel
theorem dX12_checker_18 : decode cX12_checker 18 = .ok (.sipush 1088, 3) := by decide +kernel
theorem dX12_checker_21 : decode cX12_checker 21 = .ok (.invokevirtual 113, 3) := by decide +kernel
theorem dX12_checker_24 : decode cX12_checker 24 = .ok (.iconst 1, 1) := by decide +kernel
theorem dX12_checker_25 : decode cX12_checker 25 = .ok (.istore_n 2, 1) := by decide +kernel
theorem dX12_checker_26 : decode cX12_checker 26 = .ok (.iload_n 2, 1) := by decide +kernel
theorem dX12_checker_27 : decode cX12_checker 27 = .ok (.ifCond .eq 18, 3) := by decide +kernel
theorem dX12_checker_30 : decode cX12_checker 30 = .ok (.aload_n 0, 1) := by decide +kernel
theorem dX12_checker_31 : decode cX12_checker 31 = .ok (.getfield 168, 3) := by decide +kernel
theorem dX12_checker_34 : decode cX12_checker 34 = .ok (.ifCond .eq 11, 3) := by decide +kernel
theorem dX12_checker_45 : decode cX12_checker 45 = .ok (.aload_n 0, 1) := by decide +kernel
theorem dX12_checker_46 : decode cX12_checker 46 = .ok (.getfield 193, 3) := by decide +kernel
theorem dX12_checker_49 : decode cX12_checker 49 = .ok (.ifCond .ne 63, 3) := by decide +kernel
theorem dX12_checker_52 : decode cX12_checker 52 = .ok (.iconst 0, 1) := by decide +kernel
theorem dX12_checker_53 : decode cX12_checker 53 = .ok (.istore_n 3, 1) := by decide +kernel
theorem dX12_checker_54 : decode cX12_checker 54 = .ok (.iload_n 3, 1) := by decide +kernel
theorem dX12_checker_55 : decode cX12_checker 55 = .ok (.sipush 272, 3) := by decide +kernel
theorem dX12_checker_58 : decode cX12_checker 58 = .ok (.if_icmp .ge 25, 3) := by decide +kernel
theorem dX12_checker_61 : decode cX12_checker 61 = .ok (.aload_n 0, 1) := by decide +kernel
theorem dX12_checker_62 : decode cX12_checker 62 = .ok (.getfield 7, 3) := by decide +kernel
theorem dX12_checker_65 : decode cX12_checker 65 = .ok (.iload_n 3, 1) := by decide +kernel
theorem dX12_checker_66 : decode cX12_checker 66 = .ok (.aload_n 0, 1) := by decide +kernel
theorem dX12_checker_67 : decode cX12_checker 67 = .ok (.getfield 7, 3) := by decide +kernel
theorem dX12_checker_70 : decode cX12_checker 70 = .ok (.sipush 1088, 3) := by decide +kernel
theorem dX12_checker_73 : decode cX12_checker 73 = .ok (.iload_n 3, 1) := by decide +kernel
theorem dX12_checker_74 : decode cX12_checker 74 = .ok (.iadd, 1) := by decide +kernel
theorem dX12_checker_75 : decode cX12_checker 75 = .ok (.iaload, 1) := by decide +kernel
theorem dX12_checker_76 : decode cX12_checker 76 = .ok (.iastore, 1) := by decide +kernel
theorem dX12_checker_77 : decode cX12_checker 77 = .ok (.iinc 3 1, 3) := by decide +kernel
theorem dX12_checker_80 : decode cX12_checker 80 = .ok (.goto (-26), 3) := by decide +kernel
theorem dX12_checker_83 : decode cX12_checker 83 = .ok (.iconst 0, 1) := by decide +kernel
theorem dX12_checker_84 : decode cX12_checker 84 = .ok (.istore_n 3, 1) := by decide +kernel
theorem dX12_checker_85 : decode cX12_checker 85 = .ok (.iload_n 3, 1) := by decide +kernel
theorem dX12_checker_86 : decode cX12_checker 86 = .ok (.bipush 6, 2) := by decide +kernel
theorem dX12_checker_88 : decode cX12_checker 88 = .ok (.if_icmp .ge 24, 3) := by decide +kernel
theorem dX12_checker_91 : decode cX12_checker 91 = .ok (.aload_n 0, 1) := by decide +kernel
theorem dX12_checker_92 : decode cX12_checker 92 = .ok (.getfield 13, 3) := by decide +kernel
theorem dX12_checker_95 : decode cX12_checker 95 = .ok (.iload_n 3, 1) := by decide +kernel
theorem dX12_checker_96 : decode cX12_checker 96 = .ok (.aload_n 0, 1) := by decide +kernel
theorem dX12_checker_97 : decode cX12_checker 97 = .ok (.getfield 13, 3) := by decide +kernel
theorem dX12_checker_100 : decode cX12_checker 100 = .ok (.bipush 24, 2) := by decide +kernel
theorem dX12_checker_102 : decode cX12_checker 102 = .ok (.iload_n 3, 1) := by decide +kernel
theorem dX12_checker_103 : decode cX12_checker 103 = .ok (.iadd, 1) := by decide +kernel
theorem dX12_checker_104 : decode cX12_checker 104 = .ok (.laload, 1) := by decide +kernel
theorem dX12_checker_105 : decode cX12_checker 105 = .ok (.lastore, 1) := by decide +kernel
theorem dX12_checker_106 : decode cX12_checker 106 = .ok (.iinc 3 1, 3) := by decide +kernel
theorem dX12_checker_109 : decode cX12_checker 109 = .ok (.goto (-24), 3) := by decide +kernel
theorem dX12_checker_112 : decode cX12_checker 112 = .ok (.aload_n 0, 1) := by decide +kernel
theorem dX12_checker_113 : decode cX12_checker 113 = .ok (.aload_n 0, 1) := by decide +kernel
theorem dX12_checker_114 : decode cX12_checker 114 = .ok (.getfield 7, 3) := by decide +kernel
theorem dX12_checker_117 : decode cX12_checker 117 = .ok (.iconst 3, 1) := by decide +kernel
theorem dX12_checker_118 : decode cX12_checker 118 = .ok (.iaload, 1) := by decide +kernel
theorem dX12_checker_119 : decode cX12_checker 119 = .ok (.invokevirtual 279, 3) := by decide +kernel
theorem dX12_checker_122 : decode cX12_checker 122 = .ok (.ireturn, 1) := by decide +kernel
def ws_c_X12_checker : List Cond := .code yX12_checker cX12_checker 4 (some .int) :: ([.code ⟨"NestedCheckerModel", "begins", "(II)Z"⟩ cX12_begins 4 (some .boolean), .fieldLink "NestedCheckerModel" 147 "NestedCheckerModel" "taped" "I", .fieldLink "NestedCheckerModel" 153 "NestedCheckerModel" "size" "I", .fieldLink "NestedCheckerModel" 193 "NestedCheckerModel" "faults" "I", .fieldLink "NestedCheckerModel" 41 "NestedCheckerModel" "faultPlace" "I", .fieldLink "NestedCheckerModel" 156 "NestedCheckerModel" "end" "I", .fieldLink "NestedCheckerModel" 196 "NestedCheckerModel" "seen" "I", .code ⟨"NestedCheckerModel", "ahead", "()V"⟩ cX12_ahead 2 none, .code ⟨"NestedCheckerModel", "byteAt", "(I)I"⟩ cX12_byteAt 2 (some .int), .initialized "NestedCheckerModel", .instanceMethod ⟨"NestedCheckerModel", "byteAt", "(I)I"⟩, .selects "NestedCheckerModel" ⟨"NestedCheckerModel", "byteAt", "(I)I"⟩ ⟨"NestedCheckerModel", "byteAt", "(I)I"⟩, .methodLink "NestedCheckerModel" 159 ⟨"NestedCheckerModel", "byteAt", "(I)I"⟩, .fieldLink "NestedCheckerModel" 162 "NestedCheckerModel" "from" "I", .fieldLink "NestedCheckerModel" 165 "NestedCheckerModel" "value" "I", .fieldLink "NestedCheckerModel" 168 "NestedCheckerModel" "token" "I", .instanceMethod ⟨"NestedCheckerModel", "ahead", "()V"⟩, .selects "NestedCheckerModel" ⟨"NestedCheckerModel", "ahead", "()V"⟩ ⟨"NestedCheckerModel", "ahead", "()V"⟩, .methodLink "NestedCheckerModel" 199 ⟨"NestedCheckerModel", "ahead", "()V"⟩, .instanceMethod ⟨"NestedCheckerModel", "begins", "(II)Z"⟩, .selects "NestedCheckerModel" ⟨"NestedCheckerModel", "begins", "(II)Z"⟩ ⟨"NestedCheckerModel", "begins", "(II)Z"⟩, .methodLink "NestedCheckerModel" 273 ⟨"NestedCheckerModel", "begins", "(II)Z"⟩, .code ⟨"NestedCheckerModel", "plain", "(I)V"⟩ cX12_plain 3 none, .fieldLink "NestedCheckerModel" 7 "NestedCheckerModel" "at" "[I", .instanceMethod ⟨"NestedCheckerModel", "plain", "(I)V"⟩, .selects "NestedCheckerModel" ⟨"NestedCheckerModel", "plain", "(I)V"⟩ ⟨"NestedCheckerModel", "plain", "(I)V"⟩, .methodLink "NestedCheckerModel" 113 ⟨"NestedCheckerModel", "plain", "(I)V"⟩, .fieldLink "NestedCheckerModel" 13 "NestedCheckerModel" "names" "[J", .code ⟨"NestedCheckerModel", "taken", "(I)I"⟩ cX12_taken 2 (some .int), .fieldLink "NestedCheckerModel" 37 "NestedCheckerModel" "faultKind" "I", .code ⟨"NestedCheckerModel", "gives", "(I)I"⟩ cX12_gives 2 (some .int), .fieldLink "NestedCheckerModel" 117 "NestedCheckerModel" "status" "I", .instanceMethod ⟨"NestedCheckerModel", "gives", "(I)I"⟩, .selects "NestedCheckerModel" ⟨"NestedCheckerModel", "gives", "(I)I"⟩ ⟨"NestedCheckerModel", "gives", "(I)I"⟩, .methodLink "NestedCheckerModel" 127 ⟨"NestedCheckerModel", "gives", "(I)I"⟩, .instanceMethod ⟨"NestedCheckerModel", "taken", "(I)I"⟩, .selects "NestedCheckerModel" ⟨"NestedCheckerModel", "taken", "(I)I"⟩ ⟨"NestedCheckerModel", "taken", "(I)I"⟩, .methodLink "NestedCheckerModel" 279 ⟨"NestedCheckerModel", "taken", "(I)I"⟩, .code ⟨"NestedCheckerModel", "refuse", "(I)I"⟩ cX12_refuse 2 (some .int), .instanceMethod ⟨"NestedCheckerModel", "refuse", "(I)I"⟩, .selects "NestedCheckerModel" ⟨"NestedCheckerModel", "refuse", "(I)I"⟩ ⟨"NestedCheckerModel", "refuse", "(I)I"⟩, .methodLink "NestedCheckerModel" 123 ⟨"NestedCheckerModel", "refuse", "(I)I"⟩] ++ wsX120)
set_option maxRecDepth 20000 in
theorem g_c_X12_checker_c_X12_begins : GoodIn ws_c_X12_checker ws_c_X12_begins := goodIn_r _ [1, 2, 3, 4, 5, 6, 7, 8, 9, 10, 11, 12, 13, 14, 15, 16, 17, 18, 19, 43, 44, 45, 46, 47, 48, 49, 50, 51, 52, 53, 54, 55, 56, 57, 58, 59, 60, 61, 62, 63, 64, 65, 66, 67, 68, 69, 70, 71, 72, 73, 74, 75, 76, 77, 78, 79, 80, 81, 82, 83, 84, 85, 86, 87, 88, 89, 90, 91, 92, 93] (by decide +kernel) (by decide +kernel)
set_option maxRecDepth 20000 in
theorem g_c_X12_checker_c_X12_plain_1088 : GoodIn ws_c_X12_checker ws_c_X12_plain_1088 := goodIn_r _ [23, 24, 43, 44, 45, 46, 47, 48, 49, 50, 51, 52, 53, 54, 55, 56, 57, 58, 59, 60, 61, 62, 63, 64, 65, 66, 67, 68, 69, 70, 71, 72, 73, 74, 75, 76, 77, 78, 79, 80, 81, 82, 83, 84, 85, 86, 87, 88, 89, 90, 91, 92, 93] (by decide +kernel) (by decide +kernel)
set_option maxRecDepth 20000 in
theorem g_c_X12_checker_c_X12_taken : GoodIn ws_c_X12_checker ws_c_X12_taken := goodIn_r _ [29, 4, 30, 31, 32, 10, 33, 34, 35, 43, 44, 45, 46, 47, 48, 49, 50, 51, 52, 53, 54, 55, 56, 57, 58, 59, 60, 61, 62, 63, 64, 65, 66, 67, 68, 69, 70, 71, 72, 73, 74, 75, 76, 77, 78, 79, 80, 81, 82, 83, 84, 85, 86, 87, 88, 89, 90, 91, 92, 93] (by decide +kernel) (by decide +kernel)
set_option maxRecDepth 20000 in
theorem g_c_X12_checker_c_X12_refuse : GoodIn ws_c_X12_checker ws_c_X12_refuse := goodIn_r _ [39, 32, 43, 44, 45, 46, 47, 48, 49, 50, 51, 52, 53, 54, 55, 56, 57, 58, 59, 60, 61, 62, 63, 64, 65, 66, 67, 68, 69, 70, 71, 72, 73, 74, 75, 76, 77, 78, 79, 80, 81, 82, 83, 84, 85, 86, 87, 88, 89, 90, 91, 92, 93] (by decide +kernel) (by decide +kernel)
set_option maxHeartbeats 4000000 in
set_option maxRecDepth 100000 in
theorem c_X12_checker (l : Launch) (D : va_G) (k : jK) (m0 : Nat) (b1 : Nat) (b2 : Nat) (b3 : Nat) (b4 : Nat) (b5 : Nat) (b6 : Nat) (b7 : Nat) (w0 : Nat) (w1 : Nat) (w2 : Nat) (w3 : Nat) (w4 : Nat) (w5 : Nat) (w6 : Nat) (w7 : Nat) (w8 : Nat) (w9 : Nat) (w10 : Nat) (w11 : Nat) (w12 : Nat) (w13 : Nat) (w14 : Nat) (w15 : Nat) (w16 : Nat) (w17 : Nat) (w18 : Nat) (w19 : Nat) (w20 : Nat) (w21 : Nat) (w22 : Nat) (fa : Nat → Int32) (fn : Nat → Int64) (i1 : Int32) (sz : Nat) (ha : fa 4 = -1 ∧ ∀ j, j ≠ 4 → fa j = 0) : Met l yX12_checker ws_c_X12_checker ({ frames := 3, cells := 0, slots := 0, locals := 65 }) (jy_P [.ref m0, .int i1] D vwCl (jT k) jW [(m0, .inr (11, [.ref b1, .ref b2, .int 0, .long 0, .long 1, .ref b3, .ref b4, .ref b5, .ref b6, .ref b7, .int 0, .int 0, .int 0, .int 0, .int 0, .int 0, .int (-1), .int (-1), .int 0, .int 0, .ref w0, .ref w1, .ref w2, .ref w3, .ref w4, .ref w5, .ref w6, .ref w7, .ref w8, .ref w9, .int 0, .int 0, .int 0, .ref w10, .ref w11, .int 0, .ref w12, .ref w13, .ref w14, .ref w15, .ref w16, .ref w17, .ref w18, .ref w19, .ref w20, .int 0, .ref w21, .ref w22, .int 0, .int 0, .int 0])), (b1, .inl (k.2.1, 1360, .inl fa)), (b2, .inl (k.2.2.1, 36, .inr (.inl fn)))] sz) (va_Qi (fun (r : Int32) (u : Unit) => (r = 0 ∧ i1 = 0) ∨ (r = -1 ∧ ¬ i1 = 0)) (jy_B D vwCl (va_A [(m0, .inr (11, [.ref b1, .ref b2, .int 0, .long 0, .long 1, .ref b3, .ref b4, .ref b5, .ref b6, .ref b7, .int 0, .int 0, .int 0, .int 0, .int 0, .int 0, .int (-1), .int (-1), .int 0, .int 0, .ref w0, .ref w1, .ref w2, .ref w3, .ref w4, .ref w5, .ref w6, .ref w7, .ref w8, .ref w9, .int 0, .int 0, .int 0, .ref w10, .ref w11, .int 0, .ref w12, .ref w13, .ref w14, .ref w15, .ref w16, .ref w17, .ref w18, .ref w19, .ref w20, .int 0, .ref w21, .ref w22, .int 0, .int 0, .int 0])), (b1, .inl (k.2.1, 1360, .inl fa)), (b2, .inl (k.2.2.1, 36, .inr (.inl fn)))] sz) (fun (u : Unit) => [])) (va_A [(m0, .inr (11, [.ref b1, .ref b2, .int 0, .long 0, .long 1, .ref b3, .ref b4, .ref b5, .ref b6, .ref b7, .int 0, .int 0, .int 0, .int 0, .int 0, .int 0, .int (-1), .int (-1), .int 0, .int 0, .ref w0, .ref w1, .ref w2, .ref w3, .ref w4, .ref w5, .ref w6, .ref w7, .ref w8, .ref w9, .int 0, .int 0, .int 0, .ref w10, .ref w11, .int 0, .ref w12, .ref w13, .ref w14, .ref w15, .ref w16, .ref w17, .ref w18, .ref w19, .ref w20, .int 0, .ref w21, .ref w22, .int 0, .int 0, .int 0])), (b1, .inl (k.2.1, 1360, .inl fa)), (b2, .inl (k.2.2.1, 36, .inr (.inl fn)))] sz)) 0 0 (va_A [(m0, .inr (11, [.ref b1, .ref b2, .int 0, .long 0, .long 1, .ref b3, .ref b4, .ref b5, .ref b6, .ref b7, .int 0, .int 0, .int 0, .int 0, .int 0, .int 0, .int (-1), .int (-1), .int 0, .int 0, .ref w0, .ref w1, .ref w2, .ref w3, .ref w4, .ref w5, .ref w6, .ref w7, .ref w8, .ref w9, .int 0, .int 0, .int 0, .ref w10, .ref w11, .int 0, .ref w12, .ref w13, .ref w14, .ref w15, .ref w16, .ref w17, .ref w18, .ref w19, .ref w20, .int 0, .ref w21, .ref w22, .int 0, .int 0, .int 0])), (b1, .inl (k.2.1, 1360, .inl fa)), (b2, .inl (k.2.2.1, 36, .inr (.inl fn)))] sz) := by
  refine jy_met (cc := cX12_checker) (maxL := 4) (ret := (some .int)) (lv := [(0, .ref m0), (1, .int i1)]) (by decide) rfl (Nat.le_of_ble_eq_true rfl) rfl ?_
  intro p e s m below meth c F hr hlk hnm hN hA
  have hiX12 : ∀ w ∈ u_ws RX12 TX12 51, w ∈ ws_c_X12_checker := fun w hw => List.mem_cons_of_mem _ (List.mem_append_right _ hw)
  refine jy_aload_n (pc' := 1) F 0 dX12_checker_0 rfl rfl rfl ?_
  refine jy_iload_n (pc' := 2) F 1 dX12_checker_1 rfl rfl rfl ?_
  refine jy_sipush (pc' := 5) (v := 900) F dX12_checker_2 (by decide) rfl ?_
  refine jy_calli (pc' := 8) (cells' := 0) (slots' := 0) (wr := [(b1, .inl (k.2.1, 1360, .inl fa)), (b2, .inl (k.2.2.1, 36, .inr (.inl fn)))]) hA [0] [1, 2] rfl rfl (by decide) (by decide) (jy_runV (As := [.int i1, .int 900]) (b := m0) (q0 := 0) (ci := 11) (C := RX12) (T := TX12) (N := 51) (st := []) F hN (fun sz => c_X12_begins l D k m0 b1 b2 b3 b4 b5 b6 b7 w0 w1 w2 w3 w4 w5 w6 w7 w8 w9 w10 w11 w12 w13 w14 w15 w16 w17 w18 w19 w20 w21 w22 i1 sz ) (jy_cV F g_c_X12_checker_c_X12_begins rfl hdX12_begins (List.mem_of_getElem? (i := 10) rfl) (List.mem_of_getElem? (i := 22) rfl) (List.mem_of_getElem? (i := 20) rfl) (List.mem_of_getElem? (i := 21) rfl) rfl rfl ⟨by decide, by decide⟩) rfl rfl [0] rfl (by decide) rfl rfl (Nat.le_of_ble_eq_true rfl) dX12_checker_5 ⟨by decide, by decide⟩) rfl rfl rfl (fun r_3 u_1 e_2 => ?_)
  rcases e_2 with ⟨z_5, h_4⟩ | ⟨z_6, h_4⟩
  · subst z_5
    refine jy_if_ne (pc' := 11) (tgt := 17) F dX12_checker_8 (by decide) rfl (fun _ => ?_) (fun h => absurd h (by decide))
    refine jy_aload_n (pc' := 18) F 0 dX12_checker_17 rfl rfl rfl ?_
    refine jy_sipush (pc' := 21) (v := 1088) F dX12_checker_18 (by decide) rfl ?_
    refine jy_callv (pc' := 24) (cells' := 0) (slots' := 0) (wr := [(b2, .inl (k.2.2.1, 36, .inr (.inl fn)))]) hA [2, 0] [1] rfl rfl (by decide) (by decide) (jy_runV (As := [.int 1088]) (b := m0) (q0 := 2) (ci := 11) (C := RX12) (T := TX12) (N := 51) (st := []) F hN (fun sz => c_X12_plain_1088 l D k m0 b1 (.ref b2) (.int 0) (.long 0) (.long 1) (.ref b3) (.ref b4) (.ref b5) (.ref b6) (.ref b7) (.int 0) (.int 0) (.int 0) (.int 0) (.int 0) (.int u_1) (.int (-1)) (.int (-1)) (.int 0) (.int 0) (.ref w0) (.ref w1) (.ref w2) (.ref w3) (.ref w4) (.ref w5) (.ref w6) (.ref w7) (.ref w8) (.ref w9) (.int 0) (.int 0) (.int 0) (.ref w10) (.ref w11) (.int 0) (.ref w12) (.ref w13) (.ref w14) (.ref w15) (.ref w16) (.ref w17) (.ref w18) (.ref w19) (.ref w20) (.int 0) (.ref w21) (.ref w22) (.int 0) (.int 0) (.int 0) fa sz (ha.2)) (jy_cV F g_c_X12_checker_c_X12_plain_1088 rfl hdX12_plain (List.mem_of_getElem? (i := 10) rfl) (List.mem_of_getElem? (i := 27) rfl) (List.mem_of_getElem? (i := 25) rfl) (List.mem_of_getElem? (i := 26) rfl) rfl rfl ⟨by decide, by decide⟩) rfl rfl [2, 0] rfl (by decide) rfl rfl (Nat.le_of_ble_eq_true rfl) dX12_checker_21 ⟨by decide, by decide⟩) rfl rfl rfl (fun u_8 e_9 => ?_)
    obtain ⟨f_10, rfl⟩ : ∃ z, z = u_8 := ⟨_, rfl⟩
    refine jy_ws (ws' := [(b2, .inl (k.2.2.1, 36, .inr (.inl fn))), (m0, .inr (11, [.ref b1, .ref b2, .int 0, .long 0, .long 1, .ref b3, .ref b4, .ref b5, .ref b6, .ref b7, .int 0, .int 0, .int 0, .int 0, .int 0, .int u_1, .int (-1), .int (-1), .int 0, .int 0, .ref w0, .ref w1, .ref w2, .ref w3, .ref w4, .ref w5, .ref w6, .ref w7, .ref w8, .ref w9, .int 0, .int 0, .int 0, .ref w10, .ref w11, .int 0, .ref w12, .ref w13, .ref w14, .ref w15, .ref w16, .ref w17, .ref w18, .ref w19, .ref w20, .int 0, .ref w21, .ref w22, .int 0, .int 0, .int 0])), (b1, .inl (k.2.1, 1360, .inl f_10))]) rfl ?_
    refine jy_iconst (pc' := 25) (v := 1) F dX12_checker_24 (by decide) rfl ?_
    refine jy_istore_n (pc' := 26) (lv' := [(2, .int 1), (0, .ref m0), (1, .int i1)]) F dX12_checker_25 rfl (by decide) rfl rfl ?_
    refine jy_iload_n (pc' := 27) F 0 dX12_checker_26 rfl rfl rfl ?_
    refine jy_if_eq (pc' := 30) (tgt := 45) F dX12_checker_27 (by decide) rfl (fun h => absurd h (by decide)) (fun _ => ?_)
    refine jy_aload_n (pc' := 31) F 1 dX12_checker_30 rfl rfl rfl ?_
    refine jy_get (pc' := 34) (C := RX12) (T := TX12) (N := 51) (ci := 11) (v := .int 0) F hiX12 1 rfl rfl 12 (by decide) dX12_checker_31 (List.mem_of_getElem? (i := 16) rfl) rfl rfl ?_
    refine jy_if_eq (pc' := 37) (tgt := 45) F dX12_checker_34 (by decide) rfl (fun _ => ?_) (fun h => absurd h (by decide))
    refine jy_aload_n (pc' := 46) F 1 dX12_checker_45 rfl rfl rfl ?_
    refine jy_get (pc' := 49) (C := RX12) (T := TX12) (N := 51) (ci := 11) (v := .int 0) F hiX12 1 rfl rfl 18 (by decide) dX12_checker_46 (List.mem_of_getElem? (i := 4) rfl) rfl rfl ?_
    refine jy_if_ne (pc' := 52) (tgt := 112) F dX12_checker_49 (by decide) rfl (fun h => absurd h (by decide)) (fun _ => ?_)
    refine jy_iconst (pc' := 53) (v := 0) F dX12_checker_52 (by decide) rfl ?_
    refine jy_istore_n (pc' := 54) (lv' := [(3, .int 0), (2, .int 1), (0, .ref m0), (1, .int i1)]) F dX12_checker_53 rfl (by decide) rfl rfl ?_
    refine jy_lpick (lv' := [(3, .int 0), (2, .int 1), (0, .ref m0), (1, .int i1)]) [0, 1, 2, 3] rfl ?_
    refine jy_loop (α := (Nat → Int32)) (ws := fun i_14 a_16 => [(b2, .inl (k.2.2.1, 36, .inr (.inl fn))), (m0, .inr (11, [.ref b1, .ref b2, .int 0, .long 0, .long 1, .ref b3, .ref b4, .ref b5, .ref b6, .ref b7, .int 0, .int 0, .int 0, .int 0, .int 0, .int u_1, .int (-1), .int (-1), .int 0, .int 0, .ref w0, .ref w1, .ref w2, .ref w3, .ref w4, .ref w5, .ref w6, .ref w7, .ref w8, .ref w9, .int 0, .int 0, .int 0, .ref w10, .ref w11, .int 0, .ref w12, .ref w13, .ref w14, .ref w15, .ref w16, .ref w17, .ref w18, .ref w19, .ref w20, .int 0, .ref w21, .ref w22, .int 0, .int 0, .int 0])), (b1, .inl (k.2.1, 1360, .inl a_16))]) (lv := fun i_14 a_16 => [(3, .int (nI i_14)), (2, .int 1), (0, .ref m0), (1, .int i1)]) (I := fun i_14 a_16 => ∀ j, j ≠ 4 → j ≠ 1092 → a_16 j = 0) (hi := 272) (i0 := 0) (a0 := (f_10)) (by omega) (e_9) ?_ ?_
    · rintro i_14 f_15 h_17 hv_19 ih_18
      refine jy_ws (ws' := [(b2, .inl (k.2.2.1, 36, .inr (.inl fn))), (m0, .inr (11, [.ref b1, .ref b2, .int 0, .long 0, .long 1, .ref b3, .ref b4, .ref b5, .ref b6, .ref b7, .int 0, .int 0, .int 0, .int 0, .int 0, .int u_1, .int (-1), .int (-1), .int 0, .int 0, .ref w0, .ref w1, .ref w2, .ref w3, .ref w4, .ref w5, .ref w6, .ref w7, .ref w8, .ref w9, .int 0, .int 0, .int 0, .ref w10, .ref w11, .int 0, .ref w12, .ref w13, .ref w14, .ref w15, .ref w16, .ref w17, .ref w18, .ref w19, .ref w20, .int 0, .ref w21, .ref w22, .int 0, .int 0, .int 0])), (b1, .inl (k.2.1, 1360, .inl f_15))]) rfl ?_
      refine jy_iload_n (pc' := 55) F 0 dX12_checker_54 rfl rfl rfl ?_
      refine jy_sipush (pc' := 58) (v := 272) F dX12_checker_55 (by decide) rfl ?_
      refine jy_icmp_ge (pc' := 61) (tgt := 83) F dX12_checker_58 (by decide) rfl (fun h => absurd h (nI_ge (a := i_14) (b := 272) (by omega) (by omega))) (fun _ => ?_)
      refine jy_aload_n (pc' := 62) F 2 dX12_checker_61 rfl rfl rfl ?_
      refine jy_get (pc' := 65) (C := RX12) (T := TX12) (N := 51) (ci := 11) (v := .ref b1) F hiX12 1 rfl rfl 0 (by decide) dX12_checker_62 (List.mem_of_getElem? (i := 24) rfl) rfl rfl ?_
      refine jy_iload_n (pc' := 66) F 0 dX12_checker_65 rfl rfl rfl ?_
      refine jy_aload_n (pc' := 67) F 2 dX12_checker_66 rfl rfl rfl ?_
      refine jy_get (pc' := 70) (C := RX12) (T := TX12) (N := 51) (ci := 11) (v := .ref b1) F hiX12 1 rfl rfl 0 (by decide) dX12_checker_67 (List.mem_of_getElem? (i := 24) rfl) rfl rfl ?_
      refine jy_sipush (pc' := 73) (v := 1088) F dX12_checker_70 (by decide) rfl ?_
      refine jy_iload_n (pc' := 74) F 0 dX12_checker_73 rfl rfl rfl ?_
      refine jy_iadd (pc' := 75) (v := (nI (1088 + i_14))) F dX12_checker_74 (nI_add 1088 i_14) rfl ?_
      refine jy_iald (pc' := 76) (v := (f_15 (1088 + i_14))) F 2 1 rfl rfl dX12_checker_75 (vp_in_nI (n := 1088 + i_14) (by omega) (by omega)) (by rw [nI_clamp (by omega)]) rfl ?_
      refine jy_iast (pc' := 77) (g := (upd f_15 i_14 (f_15 (1088 + i_14)))) (ws' := [(b2, .inl (k.2.2.1, 36, .inr (.inl fn))), (m0, .inr (11, [.ref b1, .ref b2, .int 0, .long 0, .long 1, .ref b3, .ref b4, .ref b5, .ref b6, .ref b7, .int 0, .int 0, .int 0, .int 0, .int 0, .int u_1, .int (-1), .int (-1), .int 0, .int 0, .ref w0, .ref w1, .ref w2, .ref w3, .ref w4, .ref w5, .ref w6, .ref w7, .ref w8, .ref w9, .int 0, .int 0, .int 0, .ref w10, .ref w11, .int 0, .ref w12, .ref w13, .ref w14, .ref w15, .ref w16, .ref w17, .ref w18, .ref w19, .ref w20, .int 0, .ref w21, .ref w22, .int 0, .int 0, .int 0])), (b1, .inl (k.2.1, 1360, .inl (upd f_15 i_14 (f_15 (1088 + i_14)))))]) F 2 1 rfl rfl dX12_checker_76 (vp_in_nI (n := i_14) (by omega) (by omega)) (by rw [nI_clamp (by omega)]) rfl rfl ?_
      refine jy_iinc (pc' := 80) (v := (nI (i_14 + 1))) (lv' := [(3, .int (nI (i_14 + 1))), (2, .int 1), (0, .ref m0), (1, .int i1)]) F 0 dX12_checker_77 rfl (nI_add i_14 1) (by decide) rfl rfl ?_
      refine jy_goto (tgt := 54) F dX12_checker_80 (by decide) ?_
      refine jy_lpick (lv' := [(3, .int (nI (i_14 + 1))), (2, .int 1), (0, .ref m0), (1, .int i1)]) [0, 1, 2, 3] rfl ?_
      exact ih_18 ((upd f_15 i_14 (f_15 (1088 + i_14)))) (fun j hj hk => by unfold upd; split; (exact hv_19 _ (by omega) (by omega)); exact hv_19 j hj hk)
    · rintro f_15 hv_19
      refine jy_ws (ws' := [(b2, .inl (k.2.2.1, 36, .inr (.inl fn))), (m0, .inr (11, [.ref b1, .ref b2, .int 0, .long 0, .long 1, .ref b3, .ref b4, .ref b5, .ref b6, .ref b7, .int 0, .int 0, .int 0, .int 0, .int 0, .int u_1, .int (-1), .int (-1), .int 0, .int 0, .ref w0, .ref w1, .ref w2, .ref w3, .ref w4, .ref w5, .ref w6, .ref w7, .ref w8, .ref w9, .int 0, .int 0, .int 0, .ref w10, .ref w11, .int 0, .ref w12, .ref w13, .ref w14, .ref w15, .ref w16, .ref w17, .ref w18, .ref w19, .ref w20, .int 0, .ref w21, .ref w22, .int 0, .int 0, .int 0])), (b1, .inl (k.2.1, 1360, .inl f_15))]) rfl ?_
      refine jy_iload_n (pc' := 55) F 0 dX12_checker_54 rfl rfl rfl ?_
      refine jy_sipush (pc' := 58) (v := 272) F dX12_checker_55 (by decide) rfl ?_
      refine jy_icmp_ge (pc' := 61) (tgt := 83) F dX12_checker_58 (by decide) rfl (fun _ => ?_) (fun h => absurd (nI_le (a := 272) (b := 272) (by omega) (by omega)) h)
      refine jy_iconst (pc' := 84) (v := 0) F dX12_checker_83 (by decide) rfl ?_
      refine jy_istore_n (pc' := 85) (lv' := [(3, .int 0), (2, .int 1), (0, .ref m0), (1, .int i1)]) F dX12_checker_84 rfl (by decide) rfl rfl ?_
      refine jy_lpick (lv' := [(3, .int 0), (2, .int 1), (0, .ref m0), (1, .int i1)]) [0, 1, 2, 3] rfl ?_
      refine jy_loop (α := (Nat → Int64)) (ws := fun i_22 a_24 => [(b2, .inl (k.2.2.1, 36, .inr (.inl a_24))), (m0, .inr (11, [.ref b1, .ref b2, .int 0, .long 0, .long 1, .ref b3, .ref b4, .ref b5, .ref b6, .ref b7, .int 0, .int 0, .int 0, .int 0, .int 0, .int u_1, .int (-1), .int (-1), .int 0, .int 0, .ref w0, .ref w1, .ref w2, .ref w3, .ref w4, .ref w5, .ref w6, .ref w7, .ref w8, .ref w9, .int 0, .int 0, .int 0, .ref w10, .ref w11, .int 0, .ref w12, .ref w13, .ref w14, .ref w15, .ref w16, .ref w17, .ref w18, .ref w19, .ref w20, .int 0, .ref w21, .ref w22, .int 0, .int 0, .int 0])), (b1, .inl (k.2.1, 1360, .inl f_15))]) (lv := fun i_22 a_24 => [(3, .int (nI i_22)), (2, .int 1), (0, .ref m0), (1, .int i1)]) (I := fun i_22 a_24 => True) (hi := 6) (i0 := 0) (a0 := (fn)) (by omega) (trivial) ?_ ?_
      · rintro i_22 f_23 h_25 hv_27 ih_26
        refine jy_ws (ws' := [(b2, .inl (k.2.2.1, 36, .inr (.inl f_23))), (m0, .inr (11, [.ref b1, .ref b2, .int 0, .long 0, .long 1, .ref b3, .ref b4, .ref b5, .ref b6, .ref b7, .int 0, .int 0, .int 0, .int 0, .int 0, .int u_1, .int (-1), .int (-1), .int 0, .int 0, .ref w0, .ref w1, .ref w2, .ref w3, .ref w4, .ref w5, .ref w6, .ref w7, .ref w8, .ref w9, .int 0, .int 0, .int 0, .ref w10, .ref w11, .int 0, .ref w12, .ref w13, .ref w14, .ref w15, .ref w16, .ref w17, .ref w18, .ref w19, .ref w20, .int 0, .ref w21, .ref w22, .int 0, .int 0, .int 0])), (b1, .inl (k.2.1, 1360, .inl f_15))]) rfl ?_
        refine jy_iload_n (pc' := 86) F 0 dX12_checker_85 rfl rfl rfl ?_
        refine jy_bipush (pc' := 88) (v := 6) F dX12_checker_86 (by decide) rfl ?_
        refine jy_icmp_ge (pc' := 91) (tgt := 112) F dX12_checker_88 (by decide) rfl (fun h => absurd h (nI_ge (a := i_22) (b := 6) (by omega) (by omega))) (fun _ => ?_)
        refine jy_aload_n (pc' := 92) F 2 dX12_checker_91 rfl rfl rfl ?_
        refine jy_get (pc' := 95) (C := RX12) (T := TX12) (N := 51) (ci := 11) (v := .ref b2) F hiX12 1 rfl rfl 1 (by decide) dX12_checker_92 (List.mem_of_getElem? (i := 28) rfl) rfl rfl ?_
        refine jy_iload_n (pc' := 96) F 0 dX12_checker_95 rfl rfl rfl ?_
        refine jy_aload_n (pc' := 97) F 2 dX12_checker_96 rfl rfl rfl ?_
        refine jy_get (pc' := 100) (C := RX12) (T := TX12) (N := 51) (ci := 11) (v := .ref b2) F hiX12 1 rfl rfl 1 (by decide) dX12_checker_97 (List.mem_of_getElem? (i := 28) rfl) rfl rfl ?_
        refine jy_bipush (pc' := 102) (v := 24) F dX12_checker_100 (by decide) rfl ?_
        refine jy_iload_n (pc' := 103) F 0 dX12_checker_102 rfl rfl rfl ?_
        refine jy_iadd (pc' := 104) (v := (nI (24 + i_22))) F dX12_checker_103 (nI_add 24 i_22) rfl ?_
        refine jy_lald (pc' := 105) (v := (f_23 (24 + i_22))) F 0 2 rfl rfl dX12_checker_104 (vp_in_nI (n := 24 + i_22) (by omega) (by omega)) (by rw [nI_clamp (by omega)]) rfl ?_
        refine jy_last (pc' := 106) (g := (vp_updL f_23 i_22 (f_23 (24 + i_22)))) (ws' := [(b2, .inl (k.2.2.1, 36, .inr (.inl (vp_updL f_23 i_22 (f_23 (24 + i_22)))))), (m0, .inr (11, [.ref b1, .ref b2, .int 0, .long 0, .long 1, .ref b3, .ref b4, .ref b5, .ref b6, .ref b7, .int 0, .int 0, .int 0, .int 0, .int 0, .int u_1, .int (-1), .int (-1), .int 0, .int 0, .ref w0, .ref w1, .ref w2, .ref w3, .ref w4, .ref w5, .ref w6, .ref w7, .ref w8, .ref w9, .int 0, .int 0, .int 0, .ref w10, .ref w11, .int 0, .ref w12, .ref w13, .ref w14, .ref w15, .ref w16, .ref w17, .ref w18, .ref w19, .ref w20, .int 0, .ref w21, .ref w22, .int 0, .int 0, .int 0])), (b1, .inl (k.2.1, 1360, .inl f_15))]) F 0 2 rfl rfl dX12_checker_105 (vp_in_nI (n := i_22) (by omega) (by omega)) (by rw [nI_clamp (by omega)]) rfl rfl ?_
        refine jy_iinc (pc' := 109) (v := (nI (i_22 + 1))) (lv' := [(3, .int (nI (i_22 + 1))), (2, .int 1), (0, .ref m0), (1, .int i1)]) F 0 dX12_checker_106 rfl (nI_add i_22 1) (by decide) rfl rfl ?_
        refine jy_goto (tgt := 85) F dX12_checker_109 (by decide) ?_
        refine jy_lpick (lv' := [(3, .int (nI (i_22 + 1))), (2, .int 1), (0, .ref m0), (1, .int i1)]) [0, 1, 2, 3] rfl ?_
        exact ih_26 ((vp_updL f_23 i_22 (f_23 (24 + i_22)))) (trivial)
      · rintro f_23 hv_27
        refine jy_ws (ws' := [(b2, .inl (k.2.2.1, 36, .inr (.inl f_23))), (m0, .inr (11, [.ref b1, .ref b2, .int 0, .long 0, .long 1, .ref b3, .ref b4, .ref b5, .ref b6, .ref b7, .int 0, .int 0, .int 0, .int 0, .int 0, .int u_1, .int (-1), .int (-1), .int 0, .int 0, .ref w0, .ref w1, .ref w2, .ref w3, .ref w4, .ref w5, .ref w6, .ref w7, .ref w8, .ref w9, .int 0, .int 0, .int 0, .ref w10, .ref w11, .int 0, .ref w12, .ref w13, .ref w14, .ref w15, .ref w16, .ref w17, .ref w18, .ref w19, .ref w20, .int 0, .ref w21, .ref w22, .int 0, .int 0, .int 0])), (b1, .inl (k.2.1, 1360, .inl f_15))]) rfl ?_
        refine jy_iload_n (pc' := 86) F 0 dX12_checker_85 rfl rfl rfl ?_
        refine jy_bipush (pc' := 88) (v := 6) F dX12_checker_86 (by decide) rfl ?_
        refine jy_icmp_ge (pc' := 91) (tgt := 112) F dX12_checker_88 (by decide) rfl (fun _ => ?_) (fun h => absurd (nI_le (a := 6) (b := 6) (by omega) (by omega)) h)
        refine jy_aload_n (pc' := 113) F 2 dX12_checker_112 rfl rfl rfl ?_
        refine jy_aload_n (pc' := 114) F 2 dX12_checker_113 rfl rfl rfl ?_
        refine jy_get (pc' := 117) (C := RX12) (T := TX12) (N := 51) (ci := 11) (v := .ref b1) F hiX12 1 rfl rfl 0 (by decide) dX12_checker_114 (List.mem_of_getElem? (i := 24) rfl) rfl rfl ?_
        refine jy_iconst (pc' := 118) (v := 3) F dX12_checker_117 (by decide) rfl ?_
        refine jy_iald (pc' := 119) (v := 0) F 2 1 rfl rfl dX12_checker_118 (vp_in_nI (n := 3) (by omega) (by omega)) (hv_19 _ (by decide) (by decide)) rfl ?_
        refine jy_calli (pc' := 122) (cells' := 0) (slots' := 0) (wr := [(b2, .inl (k.2.2.1, 36, .inr (.inl f_23))), (b1, .inl (k.2.1, 1360, .inl f_15))]) hA [1] [0, 2] rfl rfl (by decide) (by decide) (jy_runV (As := [.int 0]) (b := m0) (q0 := 1) (ci := 11) (C := RX12) (T := TX12) (N := 51) (st := []) F hN (fun sz => c_X12_taken l D k m0 b1 b2 b3 b4 b5 b6 b7 w0 w1 w2 w3 w4 w5 w6 w7 w8 w9 w10 w11 w12 w13 w14 w15 w16 w17 w18 w19 w20 w21 w22 u_1 sz ) (jy_cV F g_c_X12_checker_c_X12_taken rfl hdX12_taken (List.mem_of_getElem? (i := 10) rfl) (List.mem_of_getElem? (i := 38) rfl) (List.mem_of_getElem? (i := 36) rfl) (List.mem_of_getElem? (i := 37) rfl) rfl rfl ⟨by decide, by decide⟩) rfl rfl [1] rfl (by decide) rfl rfl (Nat.le_of_ble_eq_true rfl) dX12_checker_119 ⟨by decide, by decide⟩) rfl rfl rfl (fun r_32 u_30 e_31 => ?_)
        subst e_31
        refine jy_widen (cells' := 0) (slots' := 0) (by decide) (by decide) ?_
        exact jy_iret (v := 0) F hr hlk () (Or.inl ⟨rfl, h_4⟩) [] rfl (by decide) dX12_checker_122
  · subst z_6
    refine jy_if_ne (pc' := 11) (tgt := 17) F dX12_checker_8 (by decide) rfl (fun h => absurd h (by decide)) (fun _ => ?_)
    refine jy_aload_n (pc' := 12) F 0 dX12_checker_11 rfl rfl rfl ?_
    refine jy_iconst (pc' := 13) (v := 1) F dX12_checker_12 (by decide) rfl ?_
    refine jy_calli (pc' := 16) (cells' := 0) (slots' := 0) (wr := [(b1, .inl (k.2.1, 1360, .inl fa)), (b2, .inl (k.2.2.1, 36, .inr (.inl fn)))]) hA [2] [0, 1] rfl rfl (by decide) (by decide) (jy_runV (As := [.int 1]) (b := m0) (q0 := 2) (ci := 11) (C := RX12) (T := TX12) (N := 51) (st := []) F hN (fun sz => c_X12_refuse l D k m0 0 (.ref b1) (.ref b2) (.long 0) (.long 1) (.ref b3) (.ref b4) (.ref b5) (.ref b6) (.ref b7) (.int 0) (.int 0) (.int 0) (.int 0) (.int 0) (.int u_1) (.int (-1)) (.int (-1)) (.int 0) (.int 0) (.ref w0) (.ref w1) (.ref w2) (.ref w3) (.ref w4) (.ref w5) (.ref w6) (.ref w7) (.ref w8) (.ref w9) (.int 0) (.int 0) (.int 0) (.ref w10) (.ref w11) (.int 0) (.ref w12) (.ref w13) (.ref w14) (.ref w15) (.ref w16) (.ref w17) (.ref w18) (.ref w19) (.ref w20) (.int 0) (.ref w21) (.ref w22) (.int 0) (.int 0) (.int 0) 1 sz ) (jy_cV F g_c_X12_checker_c_X12_refuse rfl hdX12_refuse (List.mem_of_getElem? (i := 10) rfl) (List.mem_of_getElem? (i := 42) rfl) (List.mem_of_getElem? (i := 40) rfl) (List.mem_of_getElem? (i := 41) rfl) rfl rfl ⟨by decide, by decide⟩) rfl rfl [2] rfl (by decide) rfl rfl (Nat.le_of_ble_eq_true rfl) dX12_checker_13 ⟨by decide, by decide⟩) rfl rfl rfl (fun r_36 u_34 e_35 => ?_)
    subst e_35
    refine jy_widen (cells' := 0) (slots' := 0) (by decide) (by decide) ?_
    exact jy_iret (v := (-1)) F hr hlk () (Or.inr ⟨rfl, h_4⟩) [] rfl (by decide) dX12_checker_16
