abbrev cX12_seen : ByteArray := prog_14_method_149_code
def yX12_seen : MethodName := ⟨RX12, "seen", "(I)I"⟩
theorem hdX12_seen : yX12_seen.cls ≠ "java/lang/invoke/MethodHandle" ∧ yX12_seen.cls ≠ "java/lang/invoke/VarHandle" ∧ (parseMethodDescriptor yX12_seen.desc).map (fun d => d.parameters.length) = some 1 := by decide +kernel
theorem dX12_seen_0 : decode cX12_seen 0 = .ok (.iload_n 1, 1) := by decide +kernel
theorem dX12_seen_1 : decode cX12_seen 1 = .ok (.ifCond .lt 8, 3) := by decide +kernel
theorem dX12_seen_4 : decode cX12_seen 4 = .ok (.iload_n 1, 1) := by decide +kernel
theorem dX12_seen_5 : decode cX12_seen 5 = .ok (.iconst 4, 1) := by decide +kernel
theorem dX12_seen_6 : decode cX12_seen 6 = .ok (.if_icmp .le 9, 3) := by decide +kernel
theorem dX12_seen_9 : decode cX12_seen 9 = .ok (.aload_n 0, 1) := by decide +kernel
theorem dX12_seen_10 : decode cX12_seen 10 = .ok (.iconst 1, 1) := by decide +kernel
theorem dX12_seen_11 : decode cX12_seen 11 = .ok (.invokevirtual 123, 3) := by decide +kernel
theorem dX12_seen_14 : decode cX12_seen 14 = .ok (.ireturn, 1) := by decide +kernel
theorem dX12_seen_15 : decode cX12_seen 15 = .ok (.aload_n 0, 1) := by decide +kernel
theorem dX12_seen_16 : decode cX12_seen 16 = .ok (.getfield 7, 3) := by decide +kernel
theorem dX12_seen_19 : decode cX12_seen 19 = .ok (.iconst 4, 1) := by decide +kernel
theorem dX12_seen_20 : decode cX12_seen 20 = .ok (.iaload, 1) := by decide +kernel
theorem dX12_seen_21 : decode cX12_seen 21 = .ok (.iconst (-1), 1) := by decide +kernel
theorem dX12_seen_22 : decode cX12_seen 22 = .ok (.if_icmp .ne 10, 3) := by decide +kernel
theorem dX12_seen_25 : decode cX12_seen 25 = .ok (.aload_n 0, 1) := by decide +kernel
theorem dX12_seen_26 : decode cX12_seen 26 = .ok (.bipush 6, 2) := by decide +kernel
theorem dX12_seen_28 : decode cX12_seen 28 = .ok (.invokevirtual 123, 3) := by decide +kernel
theorem dX12_seen_31 : decode cX12_seen 31 = .ok (.ireturn, 1) := by decide +kernel
def ws_c_X12_seen : List Cond := .code yX12_seen cX12_seen 2 (some .int) :: ([.code ⟨"NestedCheckerModel", "refuse", "(I)I"⟩ cX12_refuse 2 (some .int), .fieldLink "NestedCheckerModel" 117 "NestedCheckerModel" "status" "I", .initialized "NestedCheckerModel", .instanceMethod ⟨"NestedCheckerModel", "refuse", "(I)I"⟩, .selects "NestedCheckerModel" ⟨"NestedCheckerModel", "refuse", "(I)I"⟩ ⟨"NestedCheckerModel", "refuse", "(I)I"⟩, .methodLink "NestedCheckerModel" 123 ⟨"NestedCheckerModel", "refuse", "(I)I"⟩, .fieldLink "NestedCheckerModel" 7 "NestedCheckerModel" "at" "[I"] ++ wsX120)
set_option maxRecDepth 20000 in
theorem g_c_X12_seen_c_X12_refuse : GoodIn ws_c_X12_seen ws_c_X12_refuse := goodIn_r _ [1, 2, 8, 9, 10, 11, 12, 13, 14, 15, 16, 17, 18, 19, 20, 21, 22, 23, 24, 25, 26, 27, 28, 29, 30, 31, 32, 33, 34, 35, 36, 37, 38, 39, 40, 41, 42, 43, 44, 45, 46, 47, 48, 49, 50, 51, 52, 53, 54, 55, 56, 57, 58] (by decide +kernel) (by decide +kernel)
set_option maxHeartbeats 4000000 in
set_option maxRecDepth 100000 in
theorem c_X12_seen (l : Launch) (D : va_G) (k : jK) (m0 : Nat) (b1 : Nat) (b2 : Nat) (b3 : Nat) (b4 : Nat) (b5 : Nat) (b6 : Nat) (b7 : Nat) (w0 : Nat) (w1 : Nat) (w2 : Nat) (w3 : Nat) (w4 : Nat) (w5 : Nat) (w6 : Nat) (w7 : Nat) (w8 : Nat) (w9 : Nat) (w10 : Nat) (w11 : Nat) (w12 : Nat) (w13 : Nat) (w14 : Nat) (w15 : Nat) (w16 : Nat) (w17 : Nat) (w18 : Nat) (w19 : Nat) (w20 : Nat) (w21 : Nat) (w22 : Nat) (fa : Nat → Int32) (i1 : Int32) (sz : Nat) (ha : fa 4 = -1 ∧ ∀ j, j ≠ 4 → fa j = 0) : Met l yX12_seen ws_c_X12_seen ({ frames := 1, cells := 0, slots := 0, locals := 21 }) (jy_P [.ref m0, .int i1] D vwCl (jT k) jW [(m0, .inr (11, [.ref b1, .ref b2, .int 0, .long 0, .long 1, .ref b3, .ref b4, .ref b5, .ref b6, .ref b7, .int 0, .int 0, .int 0, .int 0, .int 0, .int 0, .int (-1), .int (-1), .int 0, .int 0, .ref w0, .ref w1, .ref w2, .ref w3, .ref w4, .ref w5, .ref w6, .ref w7, .ref w8, .ref w9, .int 0, .int 0, .int 0, .ref w10, .ref w11, .int 0, .ref w12, .ref w13, .ref w14, .ref w15, .ref w16, .ref w17, .ref w18, .ref w19, .ref w20, .int 0, .ref w21, .ref w22, .int 0, .int 0, .int 0])), (b1, .inl (k.2.1, 1360, .inl fa))] sz) (va_Qi (fun (r : Int32) (u : Unit) => r = -1) (jy_B D vwCl (va_A [(m0, .inr (11, [.ref b1, .ref b2, .int 0, .long 0, .long 1, .ref b3, .ref b4, .ref b5, .ref b6, .ref b7, .int 0, .int 0, .int 0, .int 0, .int 0, .int 0, .int (-1), .int (-1), .int 0, .int 0, .ref w0, .ref w1, .ref w2, .ref w3, .ref w4, .ref w5, .ref w6, .ref w7, .ref w8, .ref w9, .int 0, .int 0, .int 0, .ref w10, .ref w11, .int 0, .ref w12, .ref w13, .ref w14, .ref w15, .ref w16, .ref w17, .ref w18, .ref w19, .ref w20, .int 0, .ref w21, .ref w22, .int 0, .int 0, .int 0])), (b1, .inl (k.2.1, 1360, .inl fa))] sz) (fun (u : Unit) => [])) (va_A [(m0, .inr (11, [.ref b1, .ref b2, .int 0, .long 0, .long 1, .ref b3, .ref b4, .ref b5, .ref b6, .ref b7, .int 0, .int 0, .int 0, .int 0, .int 0, .int 0, .int (-1), .int (-1), .int 0, .int 0, .ref w0, .ref w1, .ref w2, .ref w3, .ref w4, .ref w5, .ref w6, .ref w7, .ref w8, .ref w9, .int 0, .int 0, .int 0, .ref w10, .ref w11, .int 0, .ref w12, .ref w13, .ref w14, .ref w15, .ref w16, .ref w17, .ref w18, .ref w19, .ref w20, .int 0, .ref w21, .ref w22, .int 0, .int 0, .int 0])), (b1, .inl (k.2.1, 1360, .inl fa))] sz)) 0 0 (va_A [(m0, .inr (11, [.ref b1, .ref b2, .int 0, .long 0, .long 1, .ref b3, .ref b4, .ref b5, .ref b6, .ref b7, .int 0, .int 0, .int 0, .int 0, .int 0, .int 0, .int (-1), .int (-1), .int 0, .int 0, .ref w0, .ref w1, .ref w2, .ref w3, .ref w4, .ref w5, .ref w6, .ref w7, .ref w8, .ref w9, .int 0, .int 0, .int 0, .ref w10, .ref w11, .int 0, .ref w12, .ref w13, .ref w14, .ref w15, .ref w16, .ref w17, .ref w18, .ref w19, .ref w20, .int 0, .ref w21, .ref w22, .int 0, .int 0, .int 0])), (b1, .inl (k.2.1, 1360, .inl fa))] sz) := by
  refine jy_met (cc := cX12_seen) (maxL := 2) (ret := (some .int)) (lv := [(0, .ref m0), (1, .int i1)]) (by decide) rfl (Nat.le_of_ble_eq_true rfl) rfl ?_
  intro p e s m below meth c F hr hlk hnm hN hA
  have hiX12 : ∀ w ∈ u_ws RX12 TX12 51, w ∈ ws_c_X12_seen := fun w hw => List.mem_cons_of_mem _ (List.mem_append_right _ hw)
  refine jy_iload_n (pc' := 1) F 1 dX12_seen_0 rfl rfl rfl ?_
  refine jy_if_lt (pc' := 4) (tgt := 9) F dX12_seen_1 (by decide) rfl (fun h_1 => ?_) (fun h_1 => ?_)
  · refine jy_aload_n (pc' := 10) F 0 dX12_seen_9 rfl rfl rfl ?_
    refine jy_iconst (pc' := 11) (v := 1) F dX12_seen_10 (by decide) rfl ?_
    refine jy_calli (pc' := 14) (cells' := 0) (slots' := 0) (wr := [(b1, .inl (k.2.1, 1360, .inl fa))]) hA [0] [1] rfl rfl (by decide) (by decide) (jy_runV (As := [.int 1]) (b := m0) (q0 := 0) (ci := 11) (C := RX12) (T := TX12) (N := 51) (st := []) F hN (fun sz => c_X12_refuse l D k m0 0 (.ref b1) (.ref b2) (.long 0) (.long 1) (.ref b3) (.ref b4) (.ref b5) (.ref b6) (.ref b7) (.int 0) (.int 0) (.int 0) (.int 0) (.int 0) (.int 0) (.int (-1)) (.int (-1)) (.int 0) (.int 0) (.ref w0) (.ref w1) (.ref w2) (.ref w3) (.ref w4) (.ref w5) (.ref w6) (.ref w7) (.ref w8) (.ref w9) (.int 0) (.int 0) (.int 0) (.ref w10) (.ref w11) (.int 0) (.ref w12) (.ref w13) (.ref w14) (.ref w15) (.ref w16) (.ref w17) (.ref w18) (.ref w19) (.ref w20) (.int 0) (.ref w21) (.ref w22) (.int 0) (.int 0) (.int 0) 1 sz ) (jy_cV F g_c_X12_seen_c_X12_refuse rfl hdX12_refuse (List.mem_of_getElem? (i := 3) rfl) (List.mem_of_getElem? (i := 6) rfl) (List.mem_of_getElem? (i := 4) rfl) (List.mem_of_getElem? (i := 5) rfl) rfl rfl ⟨by decide, by decide⟩) rfl rfl [0] rfl (by decide) rfl rfl (Nat.le_of_ble_eq_true rfl) dX12_seen_11 ⟨by decide, by decide⟩) rfl rfl rfl (fun r_4 u_2 e_3 => ?_)
    subst e_3
    refine jy_widen (cells' := 0) (slots' := 0) (by decide) (by decide) ?_
    exact jy_iret (v := (-1)) F hr hlk () (rfl) [] rfl (by decide) dX12_seen_14
  · refine jy_iload_n (pc' := 5) F 1 dX12_seen_4 rfl rfl rfl ?_
    refine jy_iconst (pc' := 6) (v := 4) F dX12_seen_5 (by decide) rfl ?_
    refine jy_icmp_le (pc' := 9) (tgt := 15) F dX12_seen_6 (by decide) rfl (fun h_5 => ?_) (fun h_5 => ?_)
    · refine jy_aload_n (pc' := 16) F 0 dX12_seen_15 rfl rfl rfl ?_
      refine jy_get (pc' := 19) (C := RX12) (T := TX12) (N := 51) (ci := 11) (v := .ref b1) F hiX12 0 rfl rfl 0 (by decide) dX12_seen_16 (List.mem_of_getElem? (i := 7) rfl) rfl rfl ?_
      refine jy_iconst (pc' := 20) (v := 4) F dX12_seen_19 (by decide) rfl ?_
      refine jy_iald (pc' := 21) (v := (-1)) F 1 1 rfl rfl dX12_seen_20 (vp_in_nI (n := 4) (by omega) (by omega)) ha.1 rfl ?_
      refine jy_iconst (pc' := 22) (v := (-1)) F dX12_seen_21 (by decide) rfl ?_
      refine jy_icmp_ne (pc' := 25) (tgt := 32) F dX12_seen_22 (by decide) rfl (fun h => absurd h (by decide)) (fun _ => ?_)
      refine jy_aload_n (pc' := 26) F 0 dX12_seen_25 rfl rfl rfl ?_
      refine jy_bipush (pc' := 28) (v := 6) F dX12_seen_26 (by decide) rfl ?_
      refine jy_calli (pc' := 31) (cells' := 0) (slots' := 0) (wr := [(b1, .inl (k.2.1, 1360, .inl fa))]) hA [0] [1] rfl rfl (by decide) (by decide) (jy_runV (As := [.int 6]) (b := m0) (q0 := 0) (ci := 11) (C := RX12) (T := TX12) (N := 51) (st := []) F hN (fun sz => c_X12_refuse l D k m0 0 (.ref b1) (.ref b2) (.long 0) (.long 1) (.ref b3) (.ref b4) (.ref b5) (.ref b6) (.ref b7) (.int 0) (.int 0) (.int 0) (.int 0) (.int 0) (.int 0) (.int (-1)) (.int (-1)) (.int 0) (.int 0) (.ref w0) (.ref w1) (.ref w2) (.ref w3) (.ref w4) (.ref w5) (.ref w6) (.ref w7) (.ref w8) (.ref w9) (.int 0) (.int 0) (.int 0) (.ref w10) (.ref w11) (.int 0) (.ref w12) (.ref w13) (.ref w14) (.ref w15) (.ref w16) (.ref w17) (.ref w18) (.ref w19) (.ref w20) (.int 0) (.ref w21) (.ref w22) (.int 0) (.int 0) (.int 0) 6 sz ) (jy_cV F g_c_X12_seen_c_X12_refuse rfl hdX12_refuse (List.mem_of_getElem? (i := 3) rfl) (List.mem_of_getElem? (i := 6) rfl) (List.mem_of_getElem? (i := 4) rfl) (List.mem_of_getElem? (i := 5) rfl) rfl rfl ⟨by decide, by decide⟩) rfl rfl [0] rfl (by decide) rfl rfl (Nat.le_of_ble_eq_true rfl) dX12_seen_28 ⟨by decide, by decide⟩) rfl rfl rfl (fun r_9 u_7 e_8 => ?_)
      subst e_8
      refine jy_widen (cells' := 0) (slots' := 0) (by decide) (by decide) ?_
      exact jy_iret (v := (-1)) F hr hlk () (rfl) [] rfl (by decide) dX12_seen_31
    · refine jy_aload_n (pc' := 10) F 0 dX12_seen_9 rfl rfl rfl ?_
      refine jy_iconst (pc' := 11) (v := 1) F dX12_seen_10 (by decide) rfl ?_
      refine jy_calli (pc' := 14) (cells' := 0) (slots' := 0) (wr := [(b1, .inl (k.2.1, 1360, .inl fa))]) hA [0] [1] rfl rfl (by decide) (by decide) (jy_runV (As := [.int 1]) (b := m0) (q0 := 0) (ci := 11) (C := RX12) (T := TX12) (N := 51) (st := []) F hN (fun sz => c_X12_refuse l D k m0 0 (.ref b1) (.ref b2) (.long 0) (.long 1) (.ref b3) (.ref b4) (.ref b5) (.ref b6) (.ref b7) (.int 0) (.int 0) (.int 0) (.int 0) (.int 0) (.int 0) (.int (-1)) (.int (-1)) (.int 0) (.int 0) (.ref w0) (.ref w1) (.ref w2) (.ref w3) (.ref w4) (.ref w5) (.ref w6) (.ref w7) (.ref w8) (.ref w9) (.int 0) (.int 0) (.int 0) (.ref w10) (.ref w11) (.int 0) (.ref w12) (.ref w13) (.ref w14) (.ref w15) (.ref w16) (.ref w17) (.ref w18) (.ref w19) (.ref w20) (.int 0) (.ref w21) (.ref w22) (.int 0) (.int 0) (.int 0) 1 sz ) (jy_cV F g_c_X12_seen_c_X12_refuse rfl hdX12_refuse (List.mem_of_getElem? (i := 3) rfl) (List.mem_of_getElem? (i := 6) rfl) (List.mem_of_getElem? (i := 4) rfl) (List.mem_of_getElem? (i := 5) rfl) rfl rfl ⟨by decide, by decide⟩) rfl rfl [0] rfl (by decide) rfl rfl (Nat.le_of_ble_eq_true rfl) dX12_seen_11 ⟨by decide, by decide⟩) rfl rfl rfl (fun r_12 u_10 e_11 => ?_)
      subst e_11
      refine jy_widen (cells' := 0) (slots' := 0) (by decide) (by decide) ?_
      exact jy_iret (v := (-1)) F hr hlk () (rfl) [] rfl (by decide) dX12_seen_14
abbrev cX12_doomed : ByteArray := prog_14_method_151_code
def yX12_doomed : MethodName := ⟨RX12, "doomed", "()I"⟩
theorem hdX12_doomed : yX12_doomed.cls ≠ "java/lang/invoke/MethodHandle" ∧ yX12_doomed.cls ≠ "java/lang/invoke/VarHandle" ∧ (parseMethodDescriptor yX12_doomed.desc).map (fun d => d.parameters.length) = some 0 := by decide +kernel
theorem dX12_doomed_0 : decode cX12_doomed 0 = .ok (.aload_n 0, 1) := by decide +kernel
theorem dX12_doomed_1 : decode cX12_doomed 1 = .ok (.getfield 7, 3) := by decide +kernel
theorem dX12_doomed_4 : decode cX12_doomed 4 = .ok (.iconst 4, 1) := by decide +kernel
theorem dX12_doomed_5 : decode cX12_doomed 5 = .ok (.iaload, 1) := by decide +kernel
theorem dX12_doomed_6 : decode cX12_doomed 6 = .ok (.istore_n 1, 1) := by decide +kernel
theorem dX12_doomed_7 : decode cX12_doomed 7 = .ok (.iload_n 1, 1) := by decide +kernel
theorem dX12_doomed_8 : decode cX12_doomed 8 = .ok (.iconst (-1), 1) := by decide +kernel
theorem dX12_doomed_9 : decode cX12_doomed 9 = .ok (.if_icmp .ne 10, 3) := by decide +kernel
theorem dX12_doomed_12 : decode cX12_doomed 12 = .ok (.aload_n 0, 1) := by decide +kernel
theorem dX12_doomed_13 : decode cX12_doomed 13 = .ok (.bipush 6, 2) := by decide +kernel
theorem dX12_doomed_15 : decode cX12_doomed 15 = .ok (.invokevirtual 123, 3) := by decide +kernel
theorem dX12_doomed_18 : decode cX12_doomed 18 = .ok (.ireturn, 1) := by decide +kernel
def ws_c_X12_doomed : List Cond := .code yX12_doomed cX12_doomed 10 (some .int) :: ([.fieldLink "NestedCheckerModel" 7 "NestedCheckerModel" "at" "[I", .code ⟨"NestedCheckerModel", "refuse", "(I)I"⟩ cX12_refuse 2 (some .int), .fieldLink "NestedCheckerModel" 117 "NestedCheckerModel" "status" "I", .initialized "NestedCheckerModel", .instanceMethod ⟨"NestedCheckerModel", "refuse", "(I)I"⟩, .selects "NestedCheckerModel" ⟨"NestedCheckerModel", "refuse", "(I)I"⟩ ⟨"NestedCheckerModel", "refuse", "(I)I"⟩, .methodLink "NestedCheckerModel" 123 ⟨"NestedCheckerModel", "refuse", "(I)I"⟩] ++ wsX120)
set_option maxRecDepth 20000 in
theorem g_c_X12_doomed_c_X12_refuse : GoodIn ws_c_X12_doomed ws_c_X12_refuse := goodIn_r _ [2, 3, 8, 9, 10, 11, 12, 13, 14, 15, 16, 17, 18, 19, 20, 21, 22, 23, 24, 25, 26, 27, 28, 29, 30, 31, 32, 33, 34, 35, 36, 37, 38, 39, 40, 41, 42, 43, 44, 45, 46, 47, 48, 49, 50, 51, 52, 53, 54, 55, 56, 57, 58] (by decide +kernel) (by decide +kernel)
set_option maxHeartbeats 4000000 in
set_option maxRecDepth 100000 in
theorem c_X12_doomed (l : Launch) (D : va_G) (k : jK) (m0 : Nat) (b1 : Nat) (b2 : Nat) (b3 : Nat) (b4 : Nat) (b5 : Nat) (b6 : Nat) (b7 : Nat) (w0 : Nat) (w1 : Nat) (w2 : Nat) (w3 : Nat) (w4 : Nat) (w5 : Nat) (w6 : Nat) (w7 : Nat) (w8 : Nat) (w9 : Nat) (w10 : Nat) (w11 : Nat) (w12 : Nat) (w13 : Nat) (w14 : Nat) (w15 : Nat) (w16 : Nat) (w17 : Nat) (w18 : Nat) (w19 : Nat) (w20 : Nat) (w21 : Nat) (w22 : Nat) (fa : Nat → Int32) (sz : Nat) (ha : fa 4 = -1 ∧ ∀ j, j ≠ 4 → fa j = 0) : Met l yX12_doomed ws_c_X12_doomed ({ frames := 1, cells := 0, slots := 0, locals := 21 }) (jy_P [.ref m0] D vwCl (jT k) jW [(m0, .inr (11, [.ref b1, .ref b2, .int 0, .long 0, .long 1, .ref b3, .ref b4, .ref b5, .ref b6, .ref b7, .int 0, .int 0, .int 0, .int 0, .int 0, .int 0, .int (-1), .int (-1), .int 0, .int 0, .ref w0, .ref w1, .ref w2, .ref w3, .ref w4, .ref w5, .ref w6, .ref w7, .ref w8, .ref w9, .int 0, .int 0, .int 0, .ref w10, .ref w11, .int 0, .ref w12, .ref w13, .ref w14, .ref w15, .ref w16, .ref w17, .ref w18, .ref w19, .ref w20, .int 0, .ref w21, .ref w22, .int 0, .int 0, .int 0])), (b1, .inl (k.2.1, 1360, .inl fa))] sz) (va_Qi (fun (r : Int32) (u : Unit) => r = -1) (jy_B D vwCl (va_A [(m0, .inr (11, [.ref b1, .ref b2, .int 0, .long 0, .long 1, .ref b3, .ref b4, .ref b5, .ref b6, .ref b7, .int 0, .int 0, .int 0, .int 0, .int 0, .int 0, .int (-1), .int (-1), .int 0, .int 0, .ref w0, .ref w1, .ref w2, .ref w3, .ref w4, .ref w5, .ref w6, .ref w7, .ref w8, .ref w9, .int 0, .int 0, .int 0, .ref w10, .ref w11, .int 0, .ref w12, .ref w13, .ref w14, .ref w15, .ref w16, .ref w17, .ref w18, .ref w19, .ref w20, .int 0, .ref w21, .ref w22, .int 0, .int 0, .int 0])), (b1, .inl (k.2.1, 1360, .inl fa))] sz) (fun (u : Unit) => [])) (va_A [(m0, .inr (11, [.ref b1, .ref b2, .int 0, .long 0, .long 1, .ref b3, .ref b4, .ref b5, .ref b6, .ref b7, .int 0, .int 0, .int 0, .int 0, .int 0, .int 0, .int (-1), .int (-1), .int 0, .int 0, .ref w0, .ref w1, .ref w2, .ref w3, .ref w4, .ref w5, .ref w6, .ref w7, .ref w8, .ref w9, .int 0, .int 0, .int 0, .ref w10, .ref w11, .int 0, .ref w12, .ref w13, .ref w14, .ref w15, .ref w16, .ref w17, .ref w18, .ref w19, .ref w20, .int 0, .ref w21, .ref w22, .int 0, .int 0, .int 0])), (b1, .inl (k.2.1, 1360, .inl fa))] sz)) 0 0 (va_A [(m0, .inr (11, [.ref b1, .ref b2, .int 0, .long 0, .long 1, .ref b3, .ref b4, .ref b5, .ref b6, .ref b7, .int 0, .int 0, .int 0, .int 0, .int 0, .int 0, .int (-1), .int (-1), .int 0, .int 0, .ref w0, .ref w1, .ref w2, .ref w3, .ref w4, .ref w5, .ref w6, .ref w7, .ref w8, .ref w9, .int 0, .int 0, .int 0, .ref w10, .ref w11, .int 0, .ref w12, .ref w13, .ref w14, .ref w15, .ref w16, .ref w17, .ref w18, .ref w19, .ref w20, .int 0, .ref w21, .ref w22, .int 0, .int 0, .int 0])), (b1, .inl (k.2.1, 1360, .inl fa))] sz) := by
  refine jy_met (cc := cX12_doomed) (maxL := 10) (ret := (some .int)) (lv := [(0, .ref m0)]) (by decide) rfl (Nat.le_of_ble_eq_true rfl) rfl ?_
  intro p e s m below meth c F hr hlk hnm hN hA
  have hiX12 : ∀ w ∈ u_ws RX12 TX12 51, w ∈ ws_c_X12_doomed := fun w hw => List.mem_cons_of_mem _ (List.mem_append_right _ hw)
  refine jy_aload_n (pc' := 1) F 0 dX12_doomed_0 rfl rfl rfl ?_
  refine jy_get (pc' := 4) (C := RX12) (T := TX12) (N := 51) (ci := 11) (v := .ref b1) F hiX12 0 rfl rfl 0 (by decide) dX12_doomed_1 (List.mem_of_getElem? (i := 1) rfl) rfl rfl ?_
  refine jy_iconst (pc' := 5) (v := 4) F dX12_doomed_4 (by decide) rfl ?_
  refine jy_iald (pc' := 6) (v := (-1)) F 1 1 rfl rfl dX12_doomed_5 (vp_in_nI (n := 4) (by omega) (by omega)) ha.1 rfl ?_
  refine jy_istore_n (pc' := 7) (lv' := [(1, .int (-1)), (0, .ref m0)]) F dX12_doomed_6 rfl (by decide) rfl rfl ?_
  refine jy_iload_n (pc' := 8) F 0 dX12_doomed_7 rfl rfl rfl ?_
  refine jy_iconst (pc' := 9) (v := (-1)) F dX12_doomed_8 (by decide) rfl ?_
  refine jy_icmp_ne (pc' := 12) (tgt := 19) F dX12_doomed_9 (by decide) rfl (fun h => absurd h (by decide)) (fun _ => ?_)
  refine jy_aload_n (pc' := 13) F 1 dX12_doomed_12 rfl rfl rfl ?_
  refine jy_bipush (pc' := 15) (v := 6) F dX12_doomed_13 (by decide) rfl ?_
  refine jy_calli (pc' := 18) (cells' := 0) (slots' := 0) (wr := [(b1, .inl (k.2.1, 1360, .inl fa))]) hA [0] [1] rfl rfl (by decide) (by decide) (jy_runV (As := [.int 6]) (b := m0) (q0 := 0) (ci := 11) (C := RX12) (T := TX12) (N := 51) (st := []) F hN (fun sz => c_X12_refuse l D k m0 0 (.ref b1) (.ref b2) (.long 0) (.long 1) (.ref b3) (.ref b4) (.ref b5) (.ref b6) (.ref b7) (.int 0) (.int 0) (.int 0) (.int 0) (.int 0) (.int 0) (.int (-1)) (.int (-1)) (.int 0) (.int 0) (.ref w0) (.ref w1) (.ref w2) (.ref w3) (.ref w4) (.ref w5) (.ref w6) (.ref w7) (.ref w8) (.ref w9) (.int 0) (.int 0) (.int 0) (.ref w10) (.ref w11) (.int 0) (.ref w12) (.ref w13) (.ref w14) (.ref w15) (.ref w16) (.ref w17) (.ref w18) (.ref w19) (.ref w20) (.int 0) (.ref w21) (.ref w22) (.int 0) (.int 0) (.int 0) 6 sz ) (jy_cV F g_c_X12_doomed_c_X12_refuse rfl hdX12_refuse (List.mem_of_getElem? (i := 4) rfl) (List.mem_of_getElem? (i := 7) rfl) (List.mem_of_getElem? (i := 5) rfl) (List.mem_of_getElem? (i := 6) rfl) rfl rfl ⟨by decide, by decide⟩) rfl rfl [0] rfl (by decide) rfl rfl (Nat.le_of_ble_eq_true rfl) dX12_doomed_15 ⟨by decide, by decide⟩) rfl rfl rfl (fun r_4 u_2 e_3 => ?_)
  subst e_3
  refine jy_widen (cells' := 0) (slots' := 0) (by decide) (by decide) ?_
  exact jy_iret (v := (-1)) F hr hlk () (rfl) [] rfl (by decide) dX12_doomed_18
abbrev cX12_undo : ByteArray := prog_14_method_154_code
def yX12_undo : MethodName := ⟨RX12, "undo", "()I"⟩
theorem hdX12_undo : yX12_undo.cls ≠ "java/lang/invoke/MethodHandle" ∧ yX12_undo.cls ≠ "java/lang/invoke/VarHandle" ∧ (parseMethodDescriptor yX12_undo.desc).map (fun d => d.parameters.length) = some 0 := by decide +kernel
theorem dX12_undo_0 : decode cX12_undo 0 = .ok (.aload_n 0, 1) := by decide +kernel
theorem dX12_undo_1 : decode cX12_undo 1 = .ok (.getfield 535, 3) := by decide +kernel
theorem dX12_undo_4 : decode cX12_undo 4 = .ok (.ifCond .ne 10, 3) := by decide +kernel
theorem dX12_undo_7 : decode cX12_undo 7 = .ok (.aload_n 0, 1) := by decide +kernel
theorem dX12_undo_8 : decode cX12_undo 8 = .ok (.bipush 6, 2) := by decide +kernel
theorem dX12_undo_10 : decode cX12_undo 10 = .ok (.invokevirtual 123, 3) := by decide +kernel
theorem dX12_undo_13 : decode cX12_undo 13 = .ok (.ireturn, 1) := by decide +kernel
def ws_c_X12_undo : List Cond := .code yX12_undo cX12_undo 1 (some .int) :: ([.fieldLink "NestedCheckerModel" 535 "NestedCheckerModel" "marks" "I", .code ⟨"NestedCheckerModel", "refuse", "(I)I"⟩ cX12_refuse 2 (some .int), .fieldLink "NestedCheckerModel" 117 "NestedCheckerModel" "status" "I", .initialized "NestedCheckerModel", .instanceMethod ⟨"NestedCheckerModel", "refuse", "(I)I"⟩, .selects "NestedCheckerModel" ⟨"NestedCheckerModel", "refuse", "(I)I"⟩ ⟨"NestedCheckerModel", "refuse", "(I)I"⟩, .methodLink "NestedCheckerModel" 123 ⟨"NestedCheckerModel", "refuse", "(I)I"⟩] ++ wsX120)
set_option maxRecDepth 20000 in
theorem g_c_X12_undo_c_X12_refuse : GoodIn ws_c_X12_undo ws_c_X12_refuse := goodIn_r _ [2, 3, 8, 9, 10, 11, 12, 13, 14, 15, 16, 17, 18, 19, 20, 21, 22, 23, 24, 25, 26, 27, 28, 29, 30, 31, 32, 33, 34, 35, 36, 37, 38, 39, 40, 41, 42, 43, 44, 45, 46, 47, 48, 49, 50, 51, 52, 53, 54, 55, 56, 57, 58] (by decide +kernel) (by decide +kernel)
set_option maxHeartbeats 4000000 in
set_option maxRecDepth 100000 in
theorem c_X12_undo (l : Launch) (D : va_G) (k : jK) (m0 : Nat) (b1 : Nat) (b2 : Nat) (b3 : Nat) (b4 : Nat) (b5 : Nat) (b6 : Nat) (b7 : Nat) (w0 : Nat) (w1 : Nat) (w2 : Nat) (w3 : Nat) (w4 : Nat) (w5 : Nat) (w6 : Nat) (w7 : Nat) (w8 : Nat) (w9 : Nat) (w10 : Nat) (w11 : Nat) (w12 : Nat) (w13 : Nat) (w14 : Nat) (w15 : Nat) (w16 : Nat) (w17 : Nat) (w18 : Nat) (w19 : Nat) (w20 : Nat) (w21 : Nat) (w22 : Nat) (sz : Nat)  : Met l yX12_undo ws_c_X12_undo ({ frames := 1, cells := 0, slots := 0, locals := 21 }) (jy_P [.ref m0] D vwCl (jT k) jW [(m0, .inr (11, [.ref b1, .ref b2, .int 0, .long 0, .long 1, .ref b3, .ref b4, .ref b5, .ref b6, .ref b7, .int 0, .int 0, .int 0, .int 0, .int 0, .int 0, .int (-1), .int (-1), .int 0, .int 0, .ref w0, .ref w1, .ref w2, .ref w3, .ref w4, .ref w5, .ref w6, .ref w7, .ref w8, .ref w9, .int 0, .int 0, .int 0, .ref w10, .ref w11, .int 0, .ref w12, .ref w13, .ref w14, .ref w15, .ref w16, .ref w17, .ref w18, .ref w19, .ref w20, .int 0, .ref w21, .ref w22, .int 0, .int 0, .int 0]))] sz) (va_Qi (fun (r : Int32) (u : Unit) => r = -1) (jy_B D vwCl (va_A [(m0, .inr (11, [.ref b1, .ref b2, .int 0, .long 0, .long 1, .ref b3, .ref b4, .ref b5, .ref b6, .ref b7, .int 0, .int 0, .int 0, .int 0, .int 0, .int 0, .int (-1), .int (-1), .int 0, .int 0, .ref w0, .ref w1, .ref w2, .ref w3, .ref w4, .ref w5, .ref w6, .ref w7, .ref w8, .ref w9, .int 0, .int 0, .int 0, .ref w10, .ref w11, .int 0, .ref w12, .ref w13, .ref w14, .ref w15, .ref w16, .ref w17, .ref w18, .ref w19, .ref w20, .int 0, .ref w21, .ref w22, .int 0, .int 0, .int 0]))] sz) (fun (u : Unit) => [])) (va_A [(m0, .inr (11, [.ref b1, .ref b2, .int 0, .long 0, .long 1, .ref b3, .ref b4, .ref b5, .ref b6, .ref b7, .int 0, .int 0, .int 0, .int 0, .int 0, .int 0, .int (-1), .int (-1), .int 0, .int 0, .ref w0, .ref w1, .ref w2, .ref w3, .ref w4, .ref w5, .ref w6, .ref w7, .ref w8, .ref w9, .int 0, .int 0, .int 0, .ref w10, .ref w11, .int 0, .ref w12, .ref w13, .ref w14, .ref w15, .ref w16, .ref w17, .ref w18, .ref w19, .ref w20, .int 0, .ref w21, .ref w22, .int 0, .int 0, .int 0]))] sz)) 0 0 (va_A [(m0, .inr (11, [.ref b1, .ref b2, .int 0, .long 0, .long 1, .ref b3, .ref b4, .ref b5, .ref b6, .ref b7, .int 0, .int 0, .int 0, .int 0, .int 0, .int 0, .int (-1), .int (-1), .int 0, .int 0, .ref w0, .ref w1, .ref w2, .ref w3, .ref w4, .ref w5, .ref w6, .ref w7, .ref w8, .ref w9, .int 0, .int 0, .int 0, .ref w10, .ref w11, .int 0, .ref w12, .ref w13, .ref w14, .ref w15, .ref w16, .ref w17, .ref w18, .ref w19, .ref w20, .int 0, .ref w21, .ref w22, .int 0, .int 0, .int 0]))] sz) := by
  refine jy_met (cc := cX12_undo) (maxL := 1) (ret := (some .int)) (lv := [(0, .ref m0)]) (by decide) rfl (Nat.le_of_ble_eq_true rfl) rfl ?_
  intro p e s m below meth c F hr hlk hnm hN hA
  have hiX12 : ∀ w ∈ u_ws RX12 TX12 51, w ∈ ws_c_X12_undo := fun w hw => List.mem_cons_of_mem _ (List.mem_append_right _ hw)
  refine jy_aload_n (pc' := 1) F 0 dX12_undo_0 rfl rfl rfl ?_
  refine jy_get (pc' := 4) (C := RX12) (T := TX12) (N := 51) (ci := 11) (v := .int 0) F hiX12 0 rfl rfl 50 (by decide) dX12_undo_1 (List.mem_of_getElem? (i := 1) rfl) rfl rfl ?_
  refine jy_if_ne (pc' := 7) (tgt := 14) F dX12_undo_4 (by decide) rfl (fun h => absurd h (by decide)) (fun _ => ?_)
  refine jy_aload_n (pc' := 8) F 0 dX12_undo_7 rfl rfl rfl ?_
  refine jy_bipush (pc' := 10) (v := 6) F dX12_undo_8 (by decide) rfl ?_
  refine jy_calli (pc' := 13) (cells' := 0) (slots' := 0) (wr := []) hA [0] [] rfl rfl (by decide) (by decide) (jy_runV (As := [.int 6]) (b := m0) (q0 := 0) (ci := 11) (C := RX12) (T := TX12) (N := 51) (st := []) F hN (fun sz => c_X12_refuse l D k m0 0 (.ref b1) (.ref b2) (.long 0) (.long 1) (.ref b3) (.ref b4) (.ref b5) (.ref b6) (.ref b7) (.int 0) (.int 0) (.int 0) (.int 0) (.int 0) (.int 0) (.int (-1)) (.int (-1)) (.int 0) (.int 0) (.ref w0) (.ref w1) (.ref w2) (.ref w3) (.ref w4) (.ref w5) (.ref w6) (.ref w7) (.ref w8) (.ref w9) (.int 0) (.int 0) (.int 0) (.ref w10) (.ref w11) (.int 0) (.ref w12) (.ref w13) (.ref w14) (.ref w15) (.ref w16) (.ref w17) (.ref w18) (.ref w19) (.ref w20) (.int 0) (.ref w21) (.ref w22) (.int 0) (.int 0) (.int 0) 6 sz ) (jy_cV F g_c_X12_undo_c_X12_refuse rfl hdX12_refuse (List.mem_of_getElem? (i := 4) rfl) (List.mem_of_getElem? (i := 7) rfl) (List.mem_of_getElem? (i := 5) rfl) (List.mem_of_getElem? (i := 6) rfl) rfl rfl ⟨by decide, by decide⟩) rfl rfl [0] rfl (by decide) rfl rfl (Nat.le_of_ble_eq_true rfl) dX12_undo_10 ⟨by decide, by decide⟩) rfl rfl rfl (fun r_4 u_2 e_3 => ?_)
  subst e_3
  refine jy_widen (cells' := 0) (slots' := 0) (by decide) (by decide) ?_
  exact jy_iret (v := (-1)) F hr hlk () (rfl) [] rfl (by decide) dX12_undo_13
abbrev cX12_pour : ByteArray := prog_14_method_17_code
def yX12_pour : MethodName := ⟨RX12, "pour", "(IIIII)Z"⟩
theorem hdX12_pour : yX12_pour.cls ≠ "java/lang/invoke/MethodHandle" ∧ yX12_pour.cls ≠ "java/lang/invoke/VarHandle" ∧ (parseMethodDescriptor yX12_pour.desc).map (fun d => d.parameters.length) = some 5 := by decide +kernel
theorem dX12_pour_0 : decode cX12_pour 0 = .ok (.iload_n 1, 1) := by decide +kernel
theorem dX12_pour_1 : decode cX12_pour 1 = .ok (.invokestatic 134, 3) := by decide +kernel
theorem dX12_pour_4 : decode cX12_pour 4 = .ok (.ifCond .eq 24, 3) := by decide +kernel
theorem dX12_pour_7 : decode cX12_pour 7 = .ok (.iload_n 3, 1) := by decide +kernel
theorem dX12_pour_8 : decode cX12_pour 8 = .ok (.invokestatic 134, 3) := by decide +kernel
theorem dX12_pour_11 : decode cX12_pour 11 = .ok (.ifCond .eq 17, 3) := by decide +kernel
theorem dX12_pour_14 : decode cX12_pour 14 = .ok (.iload_n 2, 1) := by decide +kernel
theorem dX12_pour_15 : decode cX12_pour 15 = .ok (.ifCond .lt 13, 3) := by decide +kernel
theorem dX12_pour_18 : decode cX12_pour 18 = .ok (.iload 4, 2) := by decide +kernel
theorem dX12_pour_20 : decode cX12_pour 20 = .ok (.ifCond .lt 8, 3) := by decide +kernel
theorem dX12_pour_23 : decode cX12_pour 23 = .ok (.iload 5, 2) := by decide +kernel
theorem dX12_pour_25 : decode cX12_pour 25 = .ok (.ifCond .ge 9, 3) := by decide +kernel
theorem dX12_pour_28 : decode cX12_pour 28 = .ok (.aload_n 0, 1) := by decide +kernel
theorem dX12_pour_29 : decode cX12_pour 29 = .ok (.iconst 1, 1) := by decide +kernel
theorem dX12_pour_30 : decode cX12_pour 30 = .ok (.invokevirtual 130, 3) := by decide +kernel
theorem dX12_pour_33 : decode cX12_pour 33 = .ok (.ireturn, 1) := by decide +kernel
theorem dX12_pour_34 : decode cX12_pour 34 = .ok (.aload_n 0, 1) := by decide +kernel
theorem dX12_pour_35 : decode cX12_pour 35 = .ok (.getfield 24, 3) := by decide +kernel
theorem dX12_pour_38 : decode cX12_pour 38 = .ok (.iload_n 1, 1) := by decide +kernel
theorem dX12_pour_39 : decode cX12_pour 39 = .ok (.iaload, 1) := by decide +kernel
theorem dX12_pour_40 : decode cX12_pour 40 = .ok (.iconst (-1), 1) := by decide +kernel
theorem dX12_pour_41 : decode cX12_pour 41 = .ok (.if_icmp .eq 13, 3) := by decide +kernel
theorem dX12_pour_54 : decode cX12_pour 54 = .ok (.aload_n 0, 1) := by decide +kernel
theorem dX12_pour_55 : decode cX12_pour 55 = .ok (.iconst 2, 1) := by decide +kernel
theorem dX12_pour_56 : decode cX12_pour 56 = .ok (.invokevirtual 130, 3) := by decide +kernel
theorem dX12_pour_59 : decode cX12_pour 59 = .ok (.ireturn, 1) := by decide +kernel
def ws_c_X12_pour : List Cond := .code yX12_pour cX12_pour 8 (some .boolean) :: ([.code ⟨"NestedCheckerModel", "isTray", "(I)Z"⟩ cX12_isTray 1 (some .boolean), .initialized "NestedCheckerModel", .static ⟨"NestedCheckerModel", "isTray", "(I)Z"⟩, .methodLink "NestedCheckerModel" 134 ⟨"NestedCheckerModel", "isTray", "(I)Z"⟩, .code ⟨"NestedCheckerModel", "is", "(I)Z"⟩ cX12_is 2 (some .boolean), .fieldLink "NestedCheckerModel" 117 "NestedCheckerModel" "status" "I", .instanceMethod ⟨"NestedCheckerModel", "is", "(I)Z"⟩, .selects "NestedCheckerModel" ⟨"NestedCheckerModel", "is", "(I)Z"⟩ ⟨"NestedCheckerModel", "is", "(I)Z"⟩, .methodLink "NestedCheckerModel" 130 ⟨"NestedCheckerModel", "is", "(I)Z"⟩, .fieldLink "NestedCheckerModel" 24 "NestedCheckerModel" "trayMany" "[I"] ++ wsX120)
set_option maxRecDepth 20000 in
theorem g_c_X12_pour_c_X12_isTray : GoodIn ws_c_X12_pour ws_c_X12_isTray := goodIn_r _ [1] (by decide +kernel) (by decide +kernel)
set_option maxRecDepth 20000 in
theorem g_c_X12_pour_c_X12_is_1 : GoodIn ws_c_X12_pour ws_c_X12_is_1 := goodIn_r _ [5, 6, 11, 12, 13, 14, 15, 16, 17, 18, 19, 20, 21, 22, 23, 24, 25, 26, 27, 28, 29, 30, 31, 32, 33, 34, 35, 36, 37, 38, 39, 40, 41, 42, 43, 44, 45, 46, 47, 48, 49, 50, 51, 52, 53, 54, 55, 56, 57, 58, 59, 60, 61] (by decide +kernel) (by decide +kernel)
set_option maxRecDepth 20000 in
theorem g_c_X12_pour_c_X12_is_2 : GoodIn ws_c_X12_pour ws_c_X12_is_2 := goodIn_r _ [5, 6, 11, 12, 13, 14, 15, 16, 17, 18, 19, 20, 21, 22, 23, 24, 25, 26, 27, 28, 29, 30, 31, 32, 33, 34, 35, 36, 37, 38, 39, 40, 41, 42, 43, 44, 45, 46, 47, 48, 49, 50, 51, 52, 53, 54, 55, 56, 57, 58, 59, 60, 61] (by decide +kernel) (by decide +kernel)
set_option maxHeartbeats 4000000 in
set_option maxRecDepth 100000 in
theorem c_X12_pour (l : Launch) (D : va_G) (k : jK) (m0 : Nat) (b1 : Nat) (b2 : Nat) (b3 : Nat) (b4 : Nat) (b5 : Nat) (b6 : Nat) (b7 : Nat) (w0 : Nat) (w1 : Nat) (w2 : Nat) (w3 : Nat) (w4 : Nat) (w5 : Nat) (w6 : Nat) (w7 : Nat) (w8 : Nat) (w9 : Nat) (w10 : Nat) (w11 : Nat) (w12 : Nat) (w13 : Nat) (w14 : Nat) (w15 : Nat) (w16 : Nat) (w17 : Nat) (w18 : Nat) (w19 : Nat) (w20 : Nat) (w21 : Nat) (w22 : Nat) (fm : Nat → Int32) (i1 : Int32) (i2 : Int32) (i3 : Int32) (i4 : Int32) (i5 : Int32) (sz : Nat) (hm : ∀ j, j < 4 → fm j = -1) : Met l yX12_pour ws_c_X12_pour ({ frames := 1, cells := 0, slots := 0, locals := 21 }) (jy_P [.ref m0, .int i1, .int i2, .int i3, .int i4, .int i5] D vwCl (jT k) jW [(m0, .inr (11, [.ref b1, .ref b2, .int 0, .long 0, .long 1, .ref b3, .ref b4, .ref b5, .ref b6, .ref b7, .int 0, .int 0, .int 0, .int 0, .int 0, .int 0, .int (-1), .int (-1), .int 0, .int 0, .ref w0, .ref w1, .ref w2, .ref w3, .ref w4, .ref w5, .ref w6, .ref w7, .ref w8, .ref w9, .int 0, .int 0, .int 0, .ref w10, .ref w11, .int 0, .ref w12, .ref w13, .ref w14, .ref w15, .ref w16, .ref w17, .ref w18, .ref w19, .ref w20, .int 0, .ref w21, .ref w22, .int 0, .int 0, .int 0])), (b4, .inl (k.2.1, 4, .inl fm))] sz) (va_Qi (fun (r : Int32) (u : Unit) => r = 0) (jy_B D vwCl (va_A [(m0, .inr (11, [.ref b1, .ref b2, .int 0, .long 0, .long 1, .ref b3, .ref b4, .ref b5, .ref b6, .ref b7, .int 0, .int 0, .int 0, .int 0, .int 0, .int 0, .int (-1), .int (-1), .int 0, .int 0, .ref w0, .ref w1, .ref w2, .ref w3, .ref w4, .ref w5, .ref w6, .ref w7, .ref w8, .ref w9, .int 0, .int 0, .int 0, .ref w10, .ref w11, .int 0, .ref w12, .ref w13, .ref w14, .ref w15, .ref w16, .ref w17, .ref w18, .ref w19, .ref w20, .int 0, .ref w21, .ref w22, .int 0, .int 0, .int 0])), (b4, .inl (k.2.1, 4, .inl fm))] sz) (fun (u : Unit) => [])) (va_A [(m0, .inr (11, [.ref b1, .ref b2, .int 0, .long 0, .long 1, .ref b3, .ref b4, .ref b5, .ref b6, .ref b7, .int 0, .int 0, .int 0, .int 0, .int 0, .int 0, .int (-1), .int (-1), .int 0, .int 0, .ref w0, .ref w1, .ref w2, .ref w3, .ref w4, .ref w5, .ref w6, .ref w7, .ref w8, .ref w9, .int 0, .int 0, .int 0, .ref w10, .ref w11, .int 0, .ref w12, .ref w13, .ref w14, .ref w15, .ref w16, .ref w17, .ref w18, .ref w19, .ref w20, .int 0, .ref w21, .ref w22, .int 0, .int 0, .int 0])), (b4, .inl (k.2.1, 4, .inl fm))] sz)) 0 0 (va_A [(m0, .inr (11, [.ref b1, .ref b2, .int 0, .long 0, .long 1, .ref b3, .ref b4, .ref b5, .ref b6, .ref b7, .int 0, .int 0, .int 0, .int 0, .int 0, .int 0, .int (-1), .int (-1), .int 0, .int 0, .ref w0, .ref w1, .ref w2, .ref w3, .ref w4, .ref w5, .ref w6, .ref w7, .ref w8, .ref w9, .int 0, .int 0, .int 0, .ref w10, .ref w11, .int 0, .ref w12, .ref w13, .ref w14, .ref w15, .ref w16, .ref w17, .ref w18, .ref w19, .ref w20, .int 0, .ref w21, .ref w22, .int 0, .int 0, .int 0])), (b4, .inl (k.2.1, 4, .inl fm))] sz) := by
  refine jy_met (cc := cX12_pour) (maxL := 8) (ret := (some .boolean)) (lv := [(0, .ref m0), (1, .int i1), (2, .int i2), (3, .int i3), (4, .int i4), (5, .int i5)]) (by decide) rfl (Nat.le_of_ble_eq_true rfl) rfl ?_
  intro p e s m below meth c F hr hlk hnm hN hA
  have hiX12 : ∀ w ∈ u_ws RX12 TX12 51, w ∈ ws_c_X12_pour := fun w hw => List.mem_cons_of_mem _ (List.mem_append_right _ hw)
  refine jy_iload_n (pc' := 1) F 1 dX12_pour_0 rfl rfl rfl ?_
  refine jy_callSi (pc' := 4) (jy_runS (As := [.int i1]) (st := []) F hN (fun sz => c_X12_isTray l D k i1 sz ) (jy_cS F g_c_X12_pour_c_X12_isTray rfl hdX12_isTray (List.mem_of_getElem? (i := 2) rfl) (List.mem_of_getElem? (i := 4) rfl) (List.mem_of_getElem? (i := 3) rfl) rfl rfl ⟨by decide, by decide⟩) [] rfl (by decide) rfl rfl (Nat.le_of_ble_eq_true rfl) dX12_pour_1 ⟨by decide, by decide⟩) rfl (fun r_1 e_2 => ?_)
  rcases e_2 with ⟨z_4, h_3⟩ | ⟨z_5, h_3⟩
  · subst z_4
    refine jy_if_eq (pc' := 7) (tgt := 28) F dX12_pour_4 (by decide) rfl (fun h => absurd h (by decide)) (fun _ => ?_)
    refine jy_iload_n (pc' := 8) F 3 dX12_pour_7 rfl rfl rfl ?_
    refine jy_callSi (pc' := 11) (jy_runS (As := [.int i3]) (st := []) F hN (fun sz => c_X12_isTray l D k i3 sz ) (jy_cS F g_c_X12_pour_c_X12_isTray rfl hdX12_isTray (List.mem_of_getElem? (i := 2) rfl) (List.mem_of_getElem? (i := 4) rfl) (List.mem_of_getElem? (i := 3) rfl) rfl rfl ⟨by decide, by decide⟩) [] rfl (by decide) rfl rfl (Nat.le_of_ble_eq_true rfl) dX12_pour_8 ⟨by decide, by decide⟩) rfl (fun r_7 e_8 => ?_)
    rcases e_8 with ⟨z_10, h_9⟩ | ⟨z_11, h_9⟩
    · subst z_10
      refine jy_if_eq (pc' := 14) (tgt := 28) F dX12_pour_11 (by decide) rfl (fun h => absurd h (by decide)) (fun _ => ?_)
      refine jy_iload_n (pc' := 15) F 2 dX12_pour_14 rfl rfl rfl ?_
      refine jy_if_lt (pc' := 18) (tgt := 28) F dX12_pour_15 (by decide) rfl (fun h_13 => ?_) (fun h_13 => ?_)
      · refine jy_aload_n (pc' := 29) F 0 dX12_pour_28 rfl rfl rfl ?_
        refine jy_iconst (pc' := 30) (v := 1) F dX12_pour_29 (by decide) rfl ?_
        refine jy_calli (pc' := 33) (cells' := 0) (slots' := 0) (wr := [(b4, .inl (k.2.1, 4, .inl fm))]) hA [0] [1] rfl rfl (by decide) (by decide) (jy_runV (As := [.int 1]) (b := m0) (q0 := 0) (ci := 11) (C := RX12) (T := TX12) (N := 51) (st := []) F hN (fun sz => c_X12_is_1 l D k m0 0 (.ref b1) (.ref b2) (.long 0) (.long 1) (.ref b3) (.ref b4) (.ref b5) (.ref b6) (.ref b7) (.int 0) (.int 0) (.int 0) (.int 0) (.int 0) (.int 0) (.int (-1)) (.int (-1)) (.int 0) (.int 0) (.ref w0) (.ref w1) (.ref w2) (.ref w3) (.ref w4) (.ref w5) (.ref w6) (.ref w7) (.ref w8) (.ref w9) (.int 0) (.int 0) (.int 0) (.ref w10) (.ref w11) (.int 0) (.ref w12) (.ref w13) (.ref w14) (.ref w15) (.ref w16) (.ref w17) (.ref w18) (.ref w19) (.ref w20) (.int 0) (.ref w21) (.ref w22) (.int 0) (.int 0) (.int 0) sz ) (jy_cV F g_c_X12_pour_c_X12_is_1 rfl hdX12_is (List.mem_of_getElem? (i := 2) rfl) (List.mem_of_getElem? (i := 9) rfl) (List.mem_of_getElem? (i := 7) rfl) (List.mem_of_getElem? (i := 8) rfl) rfl rfl ⟨by decide, by decide⟩) rfl rfl [0] rfl (by decide) rfl rfl (Nat.le_of_ble_eq_true rfl) dX12_pour_30 ⟨by decide, by decide⟩) rfl rfl rfl (fun r_16 u_14 e_15 => ?_)
        subst e_15
        refine jy_widen (cells' := 0) (slots' := 0) (by decide) (by decide) ?_
        exact jy_zret (v := 0) F hr hlk (by first | rfl | decide) () (rfl) [] rfl (by decide) dX12_pour_33
      · refine jy_iload (pc' := 20) F 4 dX12_pour_18 rfl rfl ?_
        refine jy_if_lt (pc' := 23) (tgt := 28) F dX12_pour_20 (by decide) rfl (fun h_17 => ?_) (fun h_17 => ?_)
        · refine jy_aload_n (pc' := 29) F 0 dX12_pour_28 rfl rfl rfl ?_
          refine jy_iconst (pc' := 30) (v := 1) F dX12_pour_29 (by decide) rfl ?_
          refine jy_calli (pc' := 33) (cells' := 0) (slots' := 0) (wr := [(b4, .inl (k.2.1, 4, .inl fm))]) hA [0] [1] rfl rfl (by decide) (by decide) (jy_runV (As := [.int 1]) (b := m0) (q0 := 0) (ci := 11) (C := RX12) (T := TX12) (N := 51) (st := []) F hN (fun sz => c_X12_is_1 l D k m0 0 (.ref b1) (.ref b2) (.long 0) (.long 1) (.ref b3) (.ref b4) (.ref b5) (.ref b6) (.ref b7) (.int 0) (.int 0) (.int 0) (.int 0) (.int 0) (.int 0) (.int (-1)) (.int (-1)) (.int 0) (.int 0) (.ref w0) (.ref w1) (.ref w2) (.ref w3) (.ref w4) (.ref w5) (.ref w6) (.ref w7) (.ref w8) (.ref w9) (.int 0) (.int 0) (.int 0) (.ref w10) (.ref w11) (.int 0) (.ref w12) (.ref w13) (.ref w14) (.ref w15) (.ref w16) (.ref w17) (.ref w18) (.ref w19) (.ref w20) (.int 0) (.ref w21) (.ref w22) (.int 0) (.int 0) (.int 0) sz ) (jy_cV F g_c_X12_pour_c_X12_is_1 rfl hdX12_is (List.mem_of_getElem? (i := 2) rfl) (List.mem_of_getElem? (i := 9) rfl) (List.mem_of_getElem? (i := 7) rfl) (List.mem_of_getElem? (i := 8) rfl) rfl rfl ⟨by decide, by decide⟩) rfl rfl [0] rfl (by decide) rfl rfl (Nat.le_of_ble_eq_true rfl) dX12_pour_30 ⟨by decide, by decide⟩) rfl rfl rfl (fun r_20 u_18 e_19 => ?_)
          subst e_19
          refine jy_widen (cells' := 0) (slots' := 0) (by decide) (by decide) ?_
          exact jy_zret (v := 0) F hr hlk (by first | rfl | decide) () (rfl) [] rfl (by decide) dX12_pour_33
        · refine jy_iload (pc' := 25) F 5 dX12_pour_23 rfl rfl ?_
          refine jy_if_ge (pc' := 28) (tgt := 34) F dX12_pour_25 (by decide) rfl (fun h_21 => ?_) (fun h_21 => ?_)
          · refine jy_aload_n (pc' := 35) F 0 dX12_pour_34 rfl rfl rfl ?_
            refine jy_get (pc' := 38) (C := RX12) (T := TX12) (N := 51) (ci := 11) (v := .ref b4) F hiX12 0 rfl rfl 6 (by decide) dX12_pour_35 (List.mem_of_getElem? (i := 10) rfl) rfl rfl ?_
            refine jy_iload_n (pc' := 39) F 1 dX12_pour_38 rfl rfl rfl ?_
            obtain ⟨ti1, hti1, rfl⟩ := jy_lt4 h_3.1 h_3.2
            refine jy_iald (pc' := 40) (v := (-1)) F 1 1 rfl rfl dX12_pour_39 (vp_in_nI (n := ti1) (by omega) (by omega)) (by first | exact hm _ (by decide) | (rw [nI_clamp (by omega)]; exact hm _ (by omega))) rfl ?_
            refine jy_iconst (pc' := 41) (v := (-1)) F dX12_pour_40 (by decide) rfl ?_
            refine jy_icmp_eq (pc' := 44) (tgt := 54) F dX12_pour_41 (by decide) rfl (fun _ => ?_) (fun h => absurd h (by decide))
            refine jy_aload_n (pc' := 55) F 0 dX12_pour_54 rfl rfl rfl ?_
            refine jy_iconst (pc' := 56) (v := 2) F dX12_pour_55 (by decide) rfl ?_
            refine jy_calli (pc' := 59) (cells' := 0) (slots' := 0) (wr := [(b4, .inl (k.2.1, 4, .inl fm))]) hA [0] [1] rfl rfl (by decide) (by decide) (jy_runV (As := [.int 2]) (b := m0) (q0 := 0) (ci := 11) (C := RX12) (T := TX12) (N := 51) (st := []) F hN (fun sz => c_X12_is_2 l D k m0 0 (.ref b1) (.ref b2) (.long 0) (.long 1) (.ref b3) (.ref b4) (.ref b5) (.ref b6) (.ref b7) (.int 0) (.int 0) (.int 0) (.int 0) (.int 0) (.int 0) (.int (-1)) (.int (-1)) (.int 0) (.int 0) (.ref w0) (.ref w1) (.ref w2) (.ref w3) (.ref w4) (.ref w5) (.ref w6) (.ref w7) (.ref w8) (.ref w9) (.int 0) (.int 0) (.int 0) (.ref w10) (.ref w11) (.int 0) (.ref w12) (.ref w13) (.ref w14) (.ref w15) (.ref w16) (.ref w17) (.ref w18) (.ref w19) (.ref w20) (.int 0) (.ref w21) (.ref w22) (.int 0) (.int 0) (.int 0) sz ) (jy_cV F g_c_X12_pour_c_X12_is_2 rfl hdX12_is (List.mem_of_getElem? (i := 2) rfl) (List.mem_of_getElem? (i := 9) rfl) (List.mem_of_getElem? (i := 7) rfl) (List.mem_of_getElem? (i := 8) rfl) rfl rfl ⟨by decide, by decide⟩) rfl rfl [0] rfl (by decide) rfl rfl (Nat.le_of_ble_eq_true rfl) dX12_pour_56 ⟨by decide, by decide⟩) rfl rfl rfl (fun r_25 u_23 e_24 => ?_)
            subst e_24
            refine jy_widen (cells' := 0) (slots' := 0) (by decide) (by decide) ?_
            exact jy_zret (v := 0) F hr hlk (by first | rfl | decide) () (rfl) [] rfl (by decide) dX12_pour_59
          · refine jy_aload_n (pc' := 29) F 0 dX12_pour_28 rfl rfl rfl ?_
            refine jy_iconst (pc' := 30) (v := 1) F dX12_pour_29 (by decide) rfl ?_
            refine jy_calli (pc' := 33) (cells' := 0) (slots' := 0) (wr := [(b4, .inl (k.2.1, 4, .inl fm))]) hA [0] [1] rfl rfl (by decide) (by decide) (jy_runV (As := [.int 1]) (b := m0) (q0 := 0) (ci := 11) (C := RX12) (T := TX12) (N := 51) (st := []) F hN (fun sz => c_X12_is_1 l D k m0 0 (.ref b1) (.ref b2) (.long 0) (.long 1) (.ref b3) (.ref b4) (.ref b5) (.ref b6) (.ref b7) (.int 0) (.int 0) (.int 0) (.int 0) (.int 0) (.int 0) (.int (-1)) (.int (-1)) (.int 0) (.int 0) (.ref w0) (.ref w1) (.ref w2) (.ref w3) (.ref w4) (.ref w5) (.ref w6) (.ref w7) (.ref w8) (.ref w9) (.int 0) (.int 0) (.int 0) (.ref w10) (.ref w11) (.int 0) (.ref w12) (.ref w13) (.ref w14) (.ref w15) (.ref w16) (.ref w17) (.ref w18) (.ref w19) (.ref w20) (.int 0) (.ref w21) (.ref w22) (.int 0) (.int 0) (.int 0) sz ) (jy_cV F g_c_X12_pour_c_X12_is_1 rfl hdX12_is (List.mem_of_getElem? (i := 2) rfl) (List.mem_of_getElem? (i := 9) rfl) (List.mem_of_getElem? (i := 7) rfl) (List.mem_of_getElem? (i := 8) rfl) rfl rfl ⟨by decide, by decide⟩) rfl rfl [0] rfl (by decide) rfl rfl (Nat.le_of_ble_eq_true rfl) dX12_pour_30 ⟨by decide, by decide⟩) rfl rfl rfl (fun r_28 u_26 e_27 => ?_)
            subst e_27
            refine jy_widen (cells' := 0) (slots' := 0) (by decide) (by decide) ?_
            exact jy_zret (v := 0) F hr hlk (by first | rfl | decide) () (rfl) [] rfl (by decide) dX12_pour_33
    · subst z_11
      refine jy_if_eq (pc' := 14) (tgt := 28) F dX12_pour_11 (by decide) rfl (fun _ => ?_) (fun h => absurd h (by decide))
      refine jy_aload_n (pc' := 29) F 0 dX12_pour_28 rfl rfl rfl ?_
      refine jy_iconst (pc' := 30) (v := 1) F dX12_pour_29 (by decide) rfl ?_
      refine jy_calli (pc' := 33) (cells' := 0) (slots' := 0) (wr := [(b4, .inl (k.2.1, 4, .inl fm))]) hA [0] [1] rfl rfl (by decide) (by decide) (jy_runV (As := [.int 1]) (b := m0) (q0 := 0) (ci := 11) (C := RX12) (T := TX12) (N := 51) (st := []) F hN (fun sz => c_X12_is_1 l D k m0 0 (.ref b1) (.ref b2) (.long 0) (.long 1) (.ref b3) (.ref b4) (.ref b5) (.ref b6) (.ref b7) (.int 0) (.int 0) (.int 0) (.int 0) (.int 0) (.int 0) (.int (-1)) (.int (-1)) (.int 0) (.int 0) (.ref w0) (.ref w1) (.ref w2) (.ref w3) (.ref w4) (.ref w5) (.ref w6) (.ref w7) (.ref w8) (.ref w9) (.int 0) (.int 0) (.int 0) (.ref w10) (.ref w11) (.int 0) (.ref w12) (.ref w13) (.ref w14) (.ref w15) (.ref w16) (.ref w17) (.ref w18) (.ref w19) (.ref w20) (.int 0) (.ref w21) (.ref w22) (.int 0) (.int 0) (.int 0) sz ) (jy_cV F g_c_X12_pour_c_X12_is_1 rfl hdX12_is (List.mem_of_getElem? (i := 2) rfl) (List.mem_of_getElem? (i := 9) rfl) (List.mem_of_getElem? (i := 7) rfl) (List.mem_of_getElem? (i := 8) rfl) rfl rfl ⟨by decide, by decide⟩) rfl rfl [0] rfl (by decide) rfl rfl (Nat.le_of_ble_eq_true rfl) dX12_pour_30 ⟨by decide, by decide⟩) rfl rfl rfl (fun r_32 u_30 e_31 => ?_)
      subst e_31
      refine jy_widen (cells' := 0) (slots' := 0) (by decide) (by decide) ?_
      exact jy_zret (v := 0) F hr hlk (by first | rfl | decide) () (rfl) [] rfl (by decide) dX12_pour_33
  · subst z_5
    refine jy_if_eq (pc' := 7) (tgt := 28) F dX12_pour_4 (by decide) rfl (fun _ => ?_) (fun h => absurd h (by decide))
    refine jy_aload_n (pc' := 29) F 0 dX12_pour_28 rfl rfl rfl ?_
    refine jy_iconst (pc' := 30) (v := 1) F dX12_pour_29 (by decide) rfl ?_
    refine jy_calli (pc' := 33) (cells' := 0) (slots' := 0) (wr := [(b4, .inl (k.2.1, 4, .inl fm))]) hA [0] [1] rfl rfl (by decide) (by decide) (jy_runV (As := [.int 1]) (b := m0) (q0 := 0) (ci := 11) (C := RX12) (T := TX12) (N := 51) (st := []) F hN (fun sz => c_X12_is_1 l D k m0 0 (.ref b1) (.ref b2) (.long 0) (.long 1) (.ref b3) (.ref b4) (.ref b5) (.ref b6) (.ref b7) (.int 0) (.int 0) (.int 0) (.int 0) (.int 0) (.int 0) (.int (-1)) (.int (-1)) (.int 0) (.int 0) (.ref w0) (.ref w1) (.ref w2) (.ref w3) (.ref w4) (.ref w5) (.ref w6) (.ref w7) (.ref w8) (.ref w9) (.int 0) (.int 0) (.int 0) (.ref w10) (.ref w11) (.int 0) (.ref w12) (.ref w13) (.ref w14) (.ref w15) (.ref w16) (.ref w17) (.ref w18) (.ref w19) (.ref w20) (.int 0) (.ref w21) (.ref w22) (.int 0) (.int 0) (.int 0) sz ) (jy_cV F g_c_X12_pour_c_X12_is_1 rfl hdX12_is (List.mem_of_getElem? (i := 2) rfl) (List.mem_of_getElem? (i := 9) rfl) (List.mem_of_getElem? (i := 7) rfl) (List.mem_of_getElem? (i := 8) rfl) rfl rfl ⟨by decide, by decide⟩) rfl rfl [0] rfl (by decide) rfl rfl (Nat.le_of_ble_eq_true rfl) dX12_pour_30 ⟨by decide, by decide⟩) rfl rfl rfl (fun r_36 u_34 e_35 => ?_)
    subst e_35
    refine jy_widen (cells' := 0) (slots' := 0) (by decide) (by decide) ?_
    exact jy_zret (v := 0) F hr hlk (by first | rfl | decide) () (rfl) [] rfl (by decide) dX12_pour_33
abbrev cX12_depth : ByteArray := prog_14_method_91_code
def yX12_depth : MethodName := ⟨RX12, "depth", "(III)I"⟩
theorem hdX12_depth : yX12_depth.cls ≠ "java/lang/invoke/MethodHandle" ∧ yX12_depth.cls ≠ "java/lang/invoke/VarHandle" ∧ (parseMethodDescriptor yX12_depth.desc).map (fun d => d.parameters.length) = some 3 := by decide +kernel
theorem dX12_depth_0 : decode cX12_depth 0 = .ok (.aload_n 0, 1) := by decide +kernel
theorem dX12_depth_1 : decode cX12_depth 1 = .ok (.iload_n 1, 1) := by decide +kernel
theorem dX12_depth_2 : decode cX12_depth 2 = .ok (.iload_n 2, 1) := by decide +kernel
theorem dX12_depth_3 : decode cX12_depth 3 = .ok (.invokevirtual 358, 3) := by decide +kernel
theorem dX12_depth_6 : decode cX12_depth 6 = .ok (.ifCond .eq 12, 3) := by decide +kernel
theorem dX12_depth_9 : decode cX12_depth 9 = .ok (.iload_n 3, 1) := by decide +kernel
theorem dX12_depth_10 : decode cX12_depth 10 = .ok (.ifCond .lt 8, 3) := by decide +kernel
theorem dX12_depth_13 : decode cX12_depth 13 = .ok (.iload_n 3, 1) := by decide +kernel
theorem dX12_depth_14 : decode cX12_depth 14 = .ok (.iconst 2, 1) := by decide +kernel
theorem dX12_depth_15 : decode cX12_depth 15 = .ok (.if_icmp .le 9, 3) := by decide +kernel
theorem dX12_depth_18 : decode cX12_depth 18 = .ok (.aload_n 0, 1) := by decide +kernel
theorem dX12_depth_19 : decode cX12_depth 19 = .ok (.iconst 1, 1) := by decide +kernel
theorem dX12_depth_20 : decode cX12_depth 20 = .ok (.invokevirtual 123, 3) := by decide +kernel
theorem dX12_depth_23 : decode cX12_depth 23 = .ok (.ireturn, 1) := by decide +kernel
theorem dX12_depth_24 : decode cX12_depth 24 = .ok (.aload_n 0, 1) := by decide +kernel
theorem dX12_depth_25 : decode cX12_depth 25 = .ok (.iload_n 1, 1) := by decide +kernel
theorem dX12_depth_26 : decode cX12_depth 26 = .ok (.iload_n 2, 1) := by decide +kernel
theorem dX12_depth_27 : decode cX12_depth 27 = .ok (.invokevirtual 361, 3) := by decide +kernel
theorem dX12_depth_30 : decode cX12_depth 30 = .ok (.istore 4, 2) := by decide +kernel
theorem dX12_depth_32 : decode cX12_depth 32 = .ok (.iload 4, 2) := by decide +kernel
theorem dX12_depth_34 : decode cX12_depth 34 = .ok (.ifCond .le 10, 3) := by decide +kernel
theorem dX12_depth_37 : decode cX12_depth 37 = .ok (.aload_n 0, 1) := by decide +kernel
theorem dX12_depth_38 : decode cX12_depth 38 = .ok (.iload 4, 2) := by decide +kernel
theorem dX12_depth_40 : decode cX12_depth 40 = .ok (.invokevirtual 123, 3) := by decide +kernel
theorem dX12_depth_43 : decode cX12_depth 43 = .ok (.ireturn, 1) := by decide +kernel
def ws_c_X12_depth : List Cond := .code yX12_depth cX12_depth 5 (some .int) :: ([.code ⟨"NestedCheckerModel", "isWordCall", "(II)Z"⟩ cX12_isWordCall 3 (some .boolean), .code ⟨"NestedCheckerModel", "isTray", "(I)Z"⟩ cX12_isTray 1 (some .boolean), .initialized "NestedCheckerModel", .static ⟨"NestedCheckerModel", "isTray", "(I)Z"⟩, .methodLink "NestedCheckerModel" 134 ⟨"NestedCheckerModel", "isTray", "(I)Z"⟩, .constantLong "NestedCheckerModel" 356 (20 : Int64), .code ⟨"NestedCheckerModel", "isFrom", "(JJJ)Z"⟩ cX12_isFrom 6 (some .boolean), .static ⟨"NestedCheckerModel", "isFrom", "(JJJ)Z"⟩, .methodLink "NestedCheckerModel" 338 ⟨"NestedCheckerModel", "isFrom", "(JJJ)Z"⟩, .instanceMethod ⟨"NestedCheckerModel", "isWordCall", "(II)Z"⟩, .selects "NestedCheckerModel" ⟨"NestedCheckerModel", "isWordCall", "(II)Z"⟩ ⟨"NestedCheckerModel", "isWordCall", "(II)Z"⟩, .methodLink "NestedCheckerModel" 358 ⟨"NestedCheckerModel", "isWordCall", "(II)Z"⟩, .code ⟨"NestedCheckerModel", "refuse", "(I)I"⟩ cX12_refuse 2 (some .int), .fieldLink "NestedCheckerModel" 117 "NestedCheckerModel" "status" "I", .instanceMethod ⟨"NestedCheckerModel", "refuse", "(I)I"⟩, .selects "NestedCheckerModel" ⟨"NestedCheckerModel", "refuse", "(I)I"⟩ ⟨"NestedCheckerModel", "refuse", "(I)I"⟩, .methodLink "NestedCheckerModel" 123 ⟨"NestedCheckerModel", "refuse", "(I)I"⟩, .code ⟨"NestedCheckerModel", "wrongWord", "(II)I"⟩ cX12_wrongWord 4 (some .int), .fieldLink "NestedCheckerModel" 24 "NestedCheckerModel" "trayMany" "[I", .instanceMethod ⟨"NestedCheckerModel", "wrongWord", "(II)I"⟩, .selects "NestedCheckerModel" ⟨"NestedCheckerModel", "wrongWord", "(II)I"⟩ ⟨"NestedCheckerModel", "wrongWord", "(II)I"⟩, .methodLink "NestedCheckerModel" 361 ⟨"NestedCheckerModel", "wrongWord", "(II)I"⟩] ++ wsX120)
set_option maxRecDepth 20000 in
theorem g_c_X12_depth_c_X12_isWordCall : GoodIn ws_c_X12_depth ws_c_X12_isWordCall := goodIn_r _ [1, 2, 3, 4, 5, 6, 7, 8, 9] (by decide +kernel) (by decide +kernel)
set_option maxRecDepth 20000 in
theorem g_c_X12_depth_c_X12_refuse : GoodIn ws_c_X12_depth ws_c_X12_refuse := goodIn_r _ [13, 14, 23, 24, 25, 26, 27, 28, 29, 30, 31, 32, 33, 34, 35, 36, 37, 38, 39, 40, 41, 42, 43, 44, 45, 46, 47, 48, 49, 50, 51, 52, 53, 54, 55, 56, 57, 58, 59, 60, 61, 62, 63, 64, 65, 66, 67, 68, 69, 70, 71, 72, 73] (by decide +kernel) (by decide +kernel)
set_option maxRecDepth 20000 in
theorem g_c_X12_depth_c_X12_wrongWord : GoodIn ws_c_X12_depth ws_c_X12_wrongWord := goodIn_r _ [18, 19, 23, 24, 25, 26, 27, 28, 29, 30, 31, 32, 33, 34, 35, 36, 37, 38, 39, 40, 41, 42, 43, 44, 45, 46, 47, 48, 49, 50, 51, 52, 53, 54, 55, 56, 57, 58, 59, 60, 61, 62, 63, 64, 65, 66, 67, 68, 69, 70, 71, 72, 73] (by decide +kernel) (by decide +kernel)
set_option maxHeartbeats 4000000 in
set_option maxRecDepth 100000 in
theorem c_X12_depth (l : Launch) (D : va_G) (k : jK) (m0 : Nat) (b1 : Nat) (b2 : Nat) (b3 : Nat) (b4 : Nat) (b5 : Nat) (b6 : Nat) (b7 : Nat) (w0 : Nat) (w1 : Nat) (w2 : Nat) (w3 : Nat) (w4 : Nat) (w5 : Nat) (w6 : Nat) (w7 : Nat) (w8 : Nat) (w9 : Nat) (w10 : Nat) (w11 : Nat) (w12 : Nat) (w13 : Nat) (w14 : Nat) (w15 : Nat) (w16 : Nat) (w17 : Nat) (w18 : Nat) (w19 : Nat) (w20 : Nat) (w21 : Nat) (w22 : Nat) (fm : Nat → Int32) (i1 : Int32) (i2 : Int32) (i3 : Int32) (sz : Nat) (hm : ∀ j, j < 4 → fm j = -1) : Met l yX12_depth ws_c_X12_depth ({ frames := 2, cells := 0, slots := 0, locals := 47 }) (jy_P [.ref m0, .int i1, .int i2, .int i3] D vwCl (jT k) jW [(m0, .inr (11, [.ref b1, .ref b2, .int 0, .long 0, .long 1, .ref b3, .ref b4, .ref b5, .ref b6, .ref b7, .int 0, .int 0, .int 0, .int 0, .int 0, .int 0, .int (-1), .int (-1), .int 0, .int 0, .ref w0, .ref w1, .ref w2, .ref w3, .ref w4, .ref w5, .ref w6, .ref w7, .ref w8, .ref w9, .int 0, .int 0, .int 0, .ref w10, .ref w11, .int 0, .ref w12, .ref w13, .ref w14, .ref w15, .ref w16, .ref w17, .ref w18, .ref w19, .ref w20, .int 0, .ref w21, .ref w22, .int 0, .int 0, .int 0])), (b4, .inl (k.2.1, 4, .inl fm))] sz) (va_Qi (fun (r : Int32) (u : Unit) => r = -1) (jy_B D vwCl (va_A [(m0, .inr (11, [.ref b1, .ref b2, .int 0, .long 0, .long 1, .ref b3, .ref b4, .ref b5, .ref b6, .ref b7, .int 0, .int 0, .int 0, .int 0, .int 0, .int 0, .int (-1), .int (-1), .int 0, .int 0, .ref w0, .ref w1, .ref w2, .ref w3, .ref w4, .ref w5, .ref w6, .ref w7, .ref w8, .ref w9, .int 0, .int 0, .int 0, .ref w10, .ref w11, .int 0, .ref w12, .ref w13, .ref w14, .ref w15, .ref w16, .ref w17, .ref w18, .ref w19, .ref w20, .int 0, .ref w21, .ref w22, .int 0, .int 0, .int 0])), (b4, .inl (k.2.1, 4, .inl fm))] sz) (fun (u : Unit) => [])) (va_A [(m0, .inr (11, [.ref b1, .ref b2, .int 0, .long 0, .long 1, .ref b3, .ref b4, .ref b5, .ref b6, .ref b7, .int 0, .int 0, .int 0, .int 0, .int 0, .int 0, .int (-1), .int (-1), .int 0, .int 0, .ref w0, .ref w1, .ref w2, .ref w3, .ref w4, .ref w5, .ref w6, .ref w7, .ref w8, .ref w9, .int 0, .int 0, .int 0, .ref w10, .ref w11, .int 0, .ref w12, .ref w13, .ref w14, .ref w15, .ref w16, .ref w17, .ref w18, .ref w19, .ref w20, .int 0, .ref w21, .ref w22, .int 0, .int 0, .int 0])), (b4, .inl (k.2.1, 4, .inl fm))] sz)) 0 0 (va_A [(m0, .inr (11, [.ref b1, .ref b2, .int 0, .long 0, .long 1, .ref b3, .ref b4, .ref b5, .ref b6, .ref b7, .int 0, .int 0, .int 0, .int 0, .int 0, .int 0, .int (-1), .int (-1), .int 0, .int 0, .ref w0, .ref w1, .ref w2, .ref w3, .ref w4, .ref w5, .ref w6, .ref w7, .ref w8, .ref w9, .int 0, .int 0, .int 0, .ref w10, .ref w11, .int 0, .ref w12, .ref w13, .ref w14, .ref w15, .ref w16, .ref w17, .ref w18, .ref w19, .ref w20, .int 0, .ref w21, .ref w22, .int 0, .int 0, .int 0])), (b4, .inl (k.2.1, 4, .inl fm))] sz) := by
  refine jy_met (cc := cX12_depth) (maxL := 5) (ret := (some .int)) (lv := [(0, .ref m0), (1, .int i1), (2, .int i2), (3, .int i3)]) (by decide) rfl (Nat.le_of_ble_eq_true rfl) rfl ?_
  intro p e s m below meth c F hr hlk hnm hN hA
  have hiX12 : ∀ w ∈ u_ws RX12 TX12 51, w ∈ ws_c_X12_depth := fun w hw => List.mem_cons_of_mem _ (List.mem_append_right _ hw)
  refine jy_aload_n (pc' := 1) F 0 dX12_depth_0 rfl rfl rfl ?_
  refine jy_iload_n (pc' := 2) F 1 dX12_depth_1 rfl rfl rfl ?_
  refine jy_iload_n (pc' := 3) F 2 dX12_depth_2 rfl rfl rfl ?_
  refine jy_callSi (pc' := 6) (jy_runV (As := [.int i1, .int i2]) (b := m0) (q0 := 0) (ci := 11) (C := RX12) (T := TX12) (N := 51) (st := []) F hN (fun sz => c_X12_isWordCall l D k m0 b1 b2 b3 b4 b5 b6 b7 w0 w1 w2 w3 w4 w5 w6 w7 w8 w9 w10 w11 w12 w13 w14 w15 w16 w17 w18 w19 w20 w21 w22 i1 i2 sz ) (jy_cV F g_c_X12_depth_c_X12_isWordCall rfl hdX12_isWordCall (List.mem_of_getElem? (i := 3) rfl) (List.mem_of_getElem? (i := 12) rfl) (List.mem_of_getElem? (i := 10) rfl) (List.mem_of_getElem? (i := 11) rfl) rfl rfl ⟨by decide, by decide⟩) rfl rfl [0] rfl (by decide) rfl rfl (Nat.le_of_ble_eq_true rfl) dX12_depth_3 ⟨by decide, by decide⟩) rfl (fun r_1 e_2 => ?_)
  rcases e_2 with ⟨z_4, h_3⟩ | ⟨z_5, h_3⟩
  · subst z_4
    refine jy_if_eq (pc' := 9) (tgt := 18) F dX12_depth_6 (by decide) rfl (fun h => absurd h (by decide)) (fun _ => ?_)
    refine jy_iload_n (pc' := 10) F 3 dX12_depth_9 rfl rfl rfl ?_
    refine jy_if_lt (pc' := 13) (tgt := 18) F dX12_depth_10 (by decide) rfl (fun h_7 => ?_) (fun h_7 => ?_)
    · refine jy_aload_n (pc' := 19) F 0 dX12_depth_18 rfl rfl rfl ?_
      refine jy_iconst (pc' := 20) (v := 1) F dX12_depth_19 (by decide) rfl ?_
      refine jy_calli (pc' := 23) (cells' := 0) (slots' := 0) (wr := [(b4, .inl (k.2.1, 4, .inl fm))]) hA [0] [1] rfl rfl (by decide) (by decide) (jy_runV (As := [.int 1]) (b := m0) (q0 := 0) (ci := 11) (C := RX12) (T := TX12) (N := 51) (st := []) F hN (fun sz => c_X12_refuse l D k m0 0 (.ref b1) (.ref b2) (.long 0) (.long 1) (.ref b3) (.ref b4) (.ref b5) (.ref b6) (.ref b7) (.int 0) (.int 0) (.int 0) (.int 0) (.int 0) (.int 0) (.int (-1)) (.int (-1)) (.int 0) (.int 0) (.ref w0) (.ref w1) (.ref w2) (.ref w3) (.ref w4) (.ref w5) (.ref w6) (.ref w7) (.ref w8) (.ref w9) (.int 0) (.int 0) (.int 0) (.ref w10) (.ref w11) (.int 0) (.ref w12) (.ref w13) (.ref w14) (.ref w15) (.ref w16) (.ref w17) (.ref w18) (.ref w19) (.ref w20) (.int 0) (.ref w21) (.ref w22) (.int 0) (.int 0) (.int 0) 1 sz ) (jy_cV F g_c_X12_depth_c_X12_refuse rfl hdX12_refuse (List.mem_of_getElem? (i := 3) rfl) (List.mem_of_getElem? (i := 17) rfl) (List.mem_of_getElem? (i := 15) rfl) (List.mem_of_getElem? (i := 16) rfl) rfl rfl ⟨by decide, by decide⟩) rfl rfl [0] rfl (by decide) rfl rfl (Nat.le_of_ble_eq_true rfl) dX12_depth_20 ⟨by decide, by decide⟩) rfl rfl rfl (fun r_10 u_8 e_9 => ?_)
      subst e_9
      refine jy_widen (cells' := 0) (slots' := 0) (by decide) (by decide) ?_
      exact jy_iret (v := (-1)) F hr hlk () (rfl) [] rfl (by decide) dX12_depth_23
    · refine jy_iload_n (pc' := 14) F 3 dX12_depth_13 rfl rfl rfl ?_
      refine jy_iconst (pc' := 15) (v := 2) F dX12_depth_14 (by decide) rfl ?_
      refine jy_icmp_le (pc' := 18) (tgt := 24) F dX12_depth_15 (by decide) rfl (fun h_11 => ?_) (fun h_11 => ?_)
      · refine jy_aload_n (pc' := 25) F 0 dX12_depth_24 rfl rfl rfl ?_
        refine jy_iload_n (pc' := 26) F 1 dX12_depth_25 rfl rfl rfl ?_
        refine jy_iload_n (pc' := 27) F 2 dX12_depth_26 rfl rfl rfl ?_
        obtain ⟨ti1, hti1, rfl⟩ := jy_lt4 h_3.1 h_3.2
        refine jy_callSi (pc' := 30) (jy_runV (As := [.int (nI ti1), .int i2]) (b := m0) (q0 := 0) (ci := 11) (C := RX12) (T := TX12) (N := 51) (st := []) F hN (fun sz => c_X12_wrongWord l D k m0 b1 b2 b3 b4 b5 b6 b7 w0 w1 w2 w3 w4 w5 w6 w7 w8 w9 w10 w11 w12 w13 w14 w15 w16 w17 w18 w19 w20 w21 w22 fm ti1 i2 sz (hm) (by omega)) (jy_cV F g_c_X12_depth_c_X12_wrongWord rfl hdX12_wrongWord (List.mem_of_getElem? (i := 3) rfl) (List.mem_of_getElem? (i := 22) rfl) (List.mem_of_getElem? (i := 20) rfl) (List.mem_of_getElem? (i := 21) rfl) rfl rfl ⟨by decide, by decide⟩) rfl rfl [0, 1] rfl (by decide) rfl rfl (Nat.le_of_ble_eq_true rfl) dX12_depth_27 ⟨by decide, by decide⟩) rfl (fun r_12 e_13 => ?_)
        subst e_13
        refine jy_istore (pc' := 32) (lv' := [(4, .int 2), (0, .ref m0), (1, .int (nI ti1)), (2, .int i2), (3, .int i3)]) F dX12_depth_30 (by decide) rfl rfl ?_
        refine jy_iload (pc' := 34) F 0 dX12_depth_32 rfl rfl ?_
        refine jy_if_le (pc' := 37) (tgt := 44) F dX12_depth_34 (by decide) rfl (fun h => absurd h (by decide)) (fun _ => ?_)
        refine jy_aload_n (pc' := 38) F 1 dX12_depth_37 rfl rfl rfl ?_
        refine jy_iload (pc' := 40) F 0 dX12_depth_38 rfl rfl ?_
        refine jy_calli (pc' := 43) (cells' := 0) (slots' := 0) (wr := [(b4, .inl (k.2.1, 4, .inl fm))]) hA [0] [1] rfl rfl (by decide) (by decide) (jy_runV (As := [.int 2]) (b := m0) (q0 := 0) (ci := 11) (C := RX12) (T := TX12) (N := 51) (st := []) F hN (fun sz => c_X12_refuse l D k m0 0 (.ref b1) (.ref b2) (.long 0) (.long 1) (.ref b3) (.ref b4) (.ref b5) (.ref b6) (.ref b7) (.int 0) (.int 0) (.int 0) (.int 0) (.int 0) (.int 0) (.int (-1)) (.int (-1)) (.int 0) (.int 0) (.ref w0) (.ref w1) (.ref w2) (.ref w3) (.ref w4) (.ref w5) (.ref w6) (.ref w7) (.ref w8) (.ref w9) (.int 0) (.int 0) (.int 0) (.ref w10) (.ref w11) (.int 0) (.ref w12) (.ref w13) (.ref w14) (.ref w15) (.ref w16) (.ref w17) (.ref w18) (.ref w19) (.ref w20) (.int 0) (.ref w21) (.ref w22) (.int 0) (.int 0) (.int 0) 2 sz ) (jy_cV F g_c_X12_depth_c_X12_refuse rfl hdX12_refuse (List.mem_of_getElem? (i := 3) rfl) (List.mem_of_getElem? (i := 17) rfl) (List.mem_of_getElem? (i := 15) rfl) (List.mem_of_getElem? (i := 16) rfl) rfl rfl ⟨by decide, by decide⟩) rfl rfl [0] rfl (by decide) rfl rfl (Nat.le_of_ble_eq_true rfl) dX12_depth_40 ⟨by decide, by decide⟩) rfl rfl rfl (fun r_17 u_15 e_16 => ?_)
        subst e_16
        refine jy_widen (cells' := 0) (slots' := 0) (by decide) (by decide) ?_
        exact jy_iret (v := (-1)) F hr hlk () (rfl) [] rfl (by decide) dX12_depth_43
      · refine jy_aload_n (pc' := 19) F 0 dX12_depth_18 rfl rfl rfl ?_
        refine jy_iconst (pc' := 20) (v := 1) F dX12_depth_19 (by decide) rfl ?_
        refine jy_calli (pc' := 23) (cells' := 0) (slots' := 0) (wr := [(b4, .inl (k.2.1, 4, .inl fm))]) hA [0] [1] rfl rfl (by decide) (by decide) (jy_runV (As := [.int 1]) (b := m0) (q0 := 0) (ci := 11) (C := RX12) (T := TX12) (N := 51) (st := []) F hN (fun sz => c_X12_refuse l D k m0 0 (.ref b1) (.ref b2) (.long 0) (.long 1) (.ref b3) (.ref b4) (.ref b5) (.ref b6) (.ref b7) (.int 0) (.int 0) (.int 0) (.int 0) (.int 0) (.int 0) (.int (-1)) (.int (-1)) (.int 0) (.int 0) (.ref w0) (.ref w1) (.ref w2) (.ref w3) (.ref w4) (.ref w5) (.ref w6) (.ref w7) (.ref w8) (.ref w9) (.int 0) (.int 0) (.int 0) (.ref w10) (.ref w11) (.int 0) (.ref w12) (.ref w13) (.ref w14) (.ref w15) (.ref w16) (.ref w17) (.ref w18) (.ref w19) (.ref w20) (.int 0) (.ref w21) (.ref w22) (.int 0) (.int 0) (.int 0) 1 sz ) (jy_cV F g_c_X12_depth_c_X12_refuse rfl hdX12_refuse (List.mem_of_getElem? (i := 3) rfl) (List.mem_of_getElem? (i := 17) rfl) (List.mem_of_getElem? (i := 15) rfl) (List.mem_of_getElem? (i := 16) rfl) rfl rfl ⟨by decide, by decide⟩) rfl rfl [0] rfl (by decide) rfl rfl (Nat.le_of_ble_eq_true rfl) dX12_depth_20 ⟨by decide, by decide⟩) rfl rfl rfl (fun r_20 u_18 e_19 => ?_)
        subst e_19
        refine jy_widen (cells' := 0) (slots' := 0) (by decide) (by decide) ?_
        exact jy_iret (v := (-1)) F hr hlk () (rfl) [] rfl (by decide) dX12_depth_23
  · subst z_5
    refine jy_if_eq (pc' := 9) (tgt := 18) F dX12_depth_6 (by decide) rfl (fun _ => ?_) (fun h => absurd h (by decide))
    refine jy_aload_n (pc' := 19) F 0 dX12_depth_18 rfl rfl rfl ?_
    refine jy_iconst (pc' := 20) (v := 1) F dX12_depth_19 (by decide) rfl ?_
    refine jy_calli (pc' := 23) (cells' := 0) (slots' := 0) (wr := [(b4, .inl (k.2.1, 4, .inl fm))]) hA [0] [1] rfl rfl (by decide) (by decide) (jy_runV (As := [.int 1]) (b := m0) (q0 := 0) (ci := 11) (C := RX12) (T := TX12) (N := 51) (st := []) F hN (fun sz => c_X12_refuse l D k m0 0 (.ref b1) (.ref b2) (.long 0) (.long 1) (.ref b3) (.ref b4) (.ref b5) (.ref b6) (.ref b7) (.int 0) (.int 0) (.int 0) (.int 0) (.int 0) (.int 0) (.int (-1)) (.int (-1)) (.int 0) (.int 0) (.ref w0) (.ref w1) (.ref w2) (.ref w3) (.ref w4) (.ref w5) (.ref w6) (.ref w7) (.ref w8) (.ref w9) (.int 0) (.int 0) (.int 0) (.ref w10) (.ref w11) (.int 0) (.ref w12) (.ref w13) (.ref w14) (.ref w15) (.ref w16) (.ref w17) (.ref w18) (.ref w19) (.ref w20) (.int 0) (.ref w21) (.ref w22) (.int 0) (.int 0) (.int 0) 1 sz ) (jy_cV F g_c_X12_depth_c_X12_refuse rfl hdX12_refuse (List.mem_of_getElem? (i := 3) rfl) (List.mem_of_getElem? (i := 17) rfl) (List.mem_of_getElem? (i := 15) rfl) (List.mem_of_getElem? (i := 16) rfl) rfl rfl ⟨by decide, by decide⟩) rfl rfl [0] rfl (by decide) rfl rfl (Nat.le_of_ble_eq_true rfl) dX12_depth_20 ⟨by decide, by decide⟩) rfl rfl rfl (fun r_24 u_22 e_23 => ?_)
    subst e_23
    refine jy_widen (cells' := 0) (slots' := 0) (by decide) (by decide) ?_
    exact jy_iret (v := (-1)) F hr hlk () (rfl) [] rfl (by decide) dX12_depth_23
abbrev cX12_partner : ByteArray := prog_14_method_92_code
def yX12_partner : MethodName := ⟨RX12, "partner", "(III)I"⟩
theorem hdX12_partner : yX12_partner.cls ≠ "java/lang/invoke/MethodHandle" ∧ yX12_partner.cls ≠ "java/lang/invoke/VarHandle" ∧ (parseMethodDescriptor yX12_partner.desc).map (fun d => d.parameters.length) = some 3 := by decide +kernel
theorem dX12_partner_0 : decode cX12_partner 0 = .ok (.aload_n 0, 1) := by decide +kernel
theorem dX12_partner_1 : decode cX12_partner 1 = .ok (.iload_n 1, 1) := by decide +kernel
theorem dX12_partner_2 : decode cX12_partner 2 = .ok (.iload_n 2, 1) := by decide +kernel
theorem dX12_partner_3 : decode cX12_partner 3 = .ok (.invokevirtual 358, 3) := by decide +kernel
theorem dX12_partner_6 : decode cX12_partner 6 = .ok (.ifCond .eq 12, 3) := by decide +kernel
theorem dX12_partner_9 : decode cX12_partner 9 = .ok (.iload_n 3, 1) := by decide +kernel
theorem dX12_partner_10 : decode cX12_partner 10 = .ok (.ifCond .lt 8, 3) := by decide +kernel
theorem dX12_partner_13 : decode cX12_partner 13 = .ok (.iload_n 3, 1) := by decide +kernel
theorem dX12_partner_14 : decode cX12_partner 14 = .ok (.iload_n 2, 1) := by decide +kernel
theorem dX12_partner_15 : decode cX12_partner 15 = .ok (.if_icmp .lt 9, 3) := by decide +kernel
theorem dX12_partner_18 : decode cX12_partner 18 = .ok (.aload_n 0, 1) := by decide +kernel
theorem dX12_partner_19 : decode cX12_partner 19 = .ok (.iconst 1, 1) := by decide +kernel
theorem dX12_partner_20 : decode cX12_partner 20 = .ok (.invokevirtual 123, 3) := by decide +kernel
theorem dX12_partner_23 : decode cX12_partner 23 = .ok (.ireturn, 1) := by decide +kernel
theorem dX12_partner_24 : decode cX12_partner 24 = .ok (.aload_n 0, 1) := by decide +kernel
theorem dX12_partner_25 : decode cX12_partner 25 = .ok (.iload_n 1, 1) := by decide +kernel
theorem dX12_partner_26 : decode cX12_partner 26 = .ok (.iload_n 2, 1) := by decide +kernel
theorem dX12_partner_27 : decode cX12_partner 27 = .ok (.invokevirtual 361, 3) := by decide +kernel
theorem dX12_partner_30 : decode cX12_partner 30 = .ok (.istore 4, 2) := by decide +kernel
theorem dX12_partner_32 : decode cX12_partner 32 = .ok (.iload 4, 2) := by decide +kernel
theorem dX12_partner_34 : decode cX12_partner 34 = .ok (.ifCond .le 10, 3) := by decide +kernel
theorem dX12_partner_37 : decode cX12_partner 37 = .ok (.aload_n 0, 1) := by decide +kernel
theorem dX12_partner_38 : decode cX12_partner 38 = .ok (.iload 4, 2) := by decide +kernel
theorem dX12_partner_40 : decode cX12_partner 40 = .ok (.invokevirtual 123, 3) := by decide +kernel
theorem dX12_partner_43 : decode cX12_partner 43 = .ok (.ireturn, 1) := by decide +kernel
def ws_c_X12_partner : List Cond := .code yX12_partner cX12_partner 5 (some .int) :: ([.code ⟨"NestedCheckerModel", "isWordCall", "(II)Z"⟩ cX12_isWordCall 3 (some .boolean), .code ⟨"NestedCheckerModel", "isTray", "(I)Z"⟩ cX12_isTray 1 (some .boolean), .initialized "NestedCheckerModel", .static ⟨"NestedCheckerModel", "isTray", "(I)Z"⟩, .methodLink "NestedCheckerModel" 134 ⟨"NestedCheckerModel", "isTray", "(I)Z"⟩, .constantLong "NestedCheckerModel" 356 (20 : Int64), .code ⟨"NestedCheckerModel", "isFrom", "(JJJ)Z"⟩ cX12_isFrom 6 (some .boolean), .static ⟨"NestedCheckerModel", "isFrom", "(JJJ)Z"⟩, .methodLink "NestedCheckerModel" 338 ⟨"NestedCheckerModel", "isFrom", "(JJJ)Z"⟩, .instanceMethod ⟨"NestedCheckerModel", "isWordCall", "(II)Z"⟩, .selects "NestedCheckerModel" ⟨"NestedCheckerModel", "isWordCall", "(II)Z"⟩ ⟨"NestedCheckerModel", "isWordCall", "(II)Z"⟩, .methodLink "NestedCheckerModel" 358 ⟨"NestedCheckerModel", "isWordCall", "(II)Z"⟩, .code ⟨"NestedCheckerModel", "refuse", "(I)I"⟩ cX12_refuse 2 (some .int), .fieldLink "NestedCheckerModel" 117 "NestedCheckerModel" "status" "I", .instanceMethod ⟨"NestedCheckerModel", "refuse", "(I)I"⟩, .selects "NestedCheckerModel" ⟨"NestedCheckerModel", "refuse", "(I)I"⟩ ⟨"NestedCheckerModel", "refuse", "(I)I"⟩, .methodLink "NestedCheckerModel" 123 ⟨"NestedCheckerModel", "refuse", "(I)I"⟩, .code ⟨"NestedCheckerModel", "wrongWord", "(II)I"⟩ cX12_wrongWord 4 (some .int), .fieldLink "NestedCheckerModel" 24 "NestedCheckerModel" "trayMany" "[I", .instanceMethod ⟨"NestedCheckerModel", "wrongWord", "(II)I"⟩, .selects "NestedCheckerModel" ⟨"NestedCheckerModel", "wrongWord", "(II)I"⟩ ⟨"NestedCheckerModel", "wrongWord", "(II)I"⟩, .methodLink "NestedCheckerModel" 361 ⟨"NestedCheckerModel", "wrongWord", "(II)I"⟩] ++ wsX120)
set_option maxRecDepth 20000 in
theorem g_c_X12_partner_c_X12_isWordCall : GoodIn ws_c_X12_partner ws_c_X12_isWordCall := goodIn_r _ [1, 2, 3, 4, 5, 6, 7, 8, 9] (by decide +kernel) (by decide +kernel)
set_option maxRecDepth 20000 in
theorem g_c_X12_partner_c_X12_refuse : GoodIn ws_c_X12_partner ws_c_X12_refuse := goodIn_r _ [13, 14, 23, 24, 25, 26, 27, 28, 29, 30, 31, 32, 33, 34, 35, 36, 37, 38, 39, 40, 41, 42, 43, 44, 45, 46, 47, 48, 49, 50, 51, 52, 53, 54, 55, 56, 57, 58, 59, 60, 61, 62, 63, 64, 65, 66, 67, 68, 69, 70, 71, 72, 73] (by decide +kernel) (by decide +kernel)
set_option maxRecDepth 20000 in
theorem g_c_X12_partner_c_X12_wrongWord : GoodIn ws_c_X12_partner ws_c_X12_wrongWord := goodIn_r _ [18, 19, 23, 24, 25, 26, 27, 28, 29, 30, 31, 32, 33, 34, 35, 36, 37, 38, 39, 40, 41, 42, 43, 44, 45, 46, 47, 48, 49, 50, 51, 52, 53, 54, 55, 56, 57, 58, 59, 60, 61, 62, 63, 64, 65, 66, 67, 68, 69, 70, 71, 72, 73] (by decide +kernel) (by decide +kernel)
set_option maxHeartbeats 4000000 in
set_option maxRecDepth 100000 in
theorem c_X12_partner (l : Launch) (D : va_G) (k : jK) (m0 : Nat) (b1 : Nat) (b2 : Nat) (b3 : Nat) (b4 : Nat) (b5 : Nat) (b6 : Nat) (b7 : Nat) (w0 : Nat) (w1 : Nat) (w2 : Nat) (w3 : Nat) (w4 : Nat) (w5 : Nat) (w6 : Nat) (w7 : Nat) (w8 : Nat) (w9 : Nat) (w10 : Nat) (w11 : Nat) (w12 : Nat) (w13 : Nat) (w14 : Nat) (w15 : Nat) (w16 : Nat) (w17 : Nat) (w18 : Nat) (w19 : Nat) (w20 : Nat) (w21 : Nat) (w22 : Nat) (fm : Nat → Int32) (i1 : Int32) (i2 : Int32) (i3 : Int32) (sz : Nat) (hm : ∀ j, j < 4 → fm j = -1) : Met l yX12_partner ws_c_X12_partner ({ frames := 2, cells := 0, slots := 0, locals := 47 }) (jy_P [.ref m0, .int i1, .int i2, .int i3] D vwCl (jT k) jW [(m0, .inr (11, [.ref b1, .ref b2, .int 0, .long 0, .long 1, .ref b3, .ref b4, .ref b5, .ref b6, .ref b7, .int 0, .int 0, .int 0, .int 0, .int 0, .int 0, .int (-1), .int (-1), .int 0, .int 0, .ref w0, .ref w1, .ref w2, .ref w3, .ref w4, .ref w5, .ref w6, .ref w7, .ref w8, .ref w9, .int 0, .int 0, .int 0, .ref w10, .ref w11, .int 0, .ref w12, .ref w13, .ref w14, .ref w15, .ref w16, .ref w17, .ref w18, .ref w19, .ref w20, .int 0, .ref w21, .ref w22, .int 0, .int 0, .int 0])), (b4, .inl (k.2.1, 4, .inl fm))] sz) (va_Qi (fun (r : Int32) (u : Unit) => r = -1) (jy_B D vwCl (va_A [(m0, .inr (11, [.ref b1, .ref b2, .int 0, .long 0, .long 1, .ref b3, .ref b4, .ref b5, .ref b6, .ref b7, .int 0, .int 0, .int 0, .int 0, .int 0, .int 0, .int (-1), .int (-1), .int 0, .int 0, .ref w0, .ref w1, .ref w2, .ref w3, .ref w4, .ref w5, .ref w6, .ref w7, .ref w8, .ref w9, .int 0, .int 0, .int 0, .ref w10, .ref w11, .int 0, .ref w12, .ref w13, .ref w14, .ref w15, .ref w16, .ref w17, .ref w18, .ref w19, .ref w20, .int 0, .ref w21, .ref w22, .int 0, .int 0, .int 0])), (b4, .inl (k.2.1, 4, .inl fm))] sz) (fun (u : Unit) => [])) (va_A [(m0, .inr (11, [.ref b1, .ref b2, .int 0, .long 0, .long 1, .ref b3, .ref b4, .ref b5, .ref b6, .ref b7, .int 0, .int 0, .int 0, .int 0, .int 0, .int 0, .int (-1), .int (-1), .int 0, .int 0, .ref w0, .ref w1, .ref w2, .ref w3, .ref w4, .ref w5, .ref w6, .ref w7, .ref w8, .ref w9, .int 0, .int 0, .int 0, .ref w10, .ref w11, .int 0, .ref w12, .ref w13, .ref w14, .ref w15, .ref w16, .ref w17, .ref w18, .ref w19, .ref w20, .int 0, .ref w21, .ref w22, .int 0, .int 0, .int 0])), (b4, .inl (k.2.1, 4, .inl fm))] sz)) 0 0 (va_A [(m0, .inr (11, [.ref b1, .ref b2, .int 0, .long 0, .long 1, .ref b3, .ref b4, .ref b5, .ref b6, .ref b7, .int 0, .int 0, .int 0, .int 0, .int 0, .int 0, .int (-1), .int (-1), .int 0, .int 0, .ref w0, .ref w1, .ref w2, .ref w3, .ref w4, .ref w5, .ref w6, .ref w7, .ref w8, .ref w9, .int 0, .int 0, .int 0, .ref w10, .ref w11, .int 0, .ref w12, .ref w13, .ref w14, .ref w15, .ref w16, .ref w17, .ref w18, .ref w19, .ref w20, .int 0, .ref w21, .ref w22, .int 0, .int 0, .int 0])), (b4, .inl (k.2.1, 4, .inl fm))] sz) := by
  refine jy_met (cc := cX12_partner) (maxL := 5) (ret := (some .int)) (lv := [(0, .ref m0), (1, .int i1), (2, .int i2), (3, .int i3)]) (by decide) rfl (Nat.le_of_ble_eq_true rfl) rfl ?_
  intro p e s m below meth c F hr hlk hnm hN hA
  have hiX12 : ∀ w ∈ u_ws RX12 TX12 51, w ∈ ws_c_X12_partner := fun w hw => List.mem_cons_of_mem _ (List.mem_append_right _ hw)
  refine jy_aload_n (pc' := 1) F 0 dX12_partner_0 rfl rfl rfl ?_
  refine jy_iload_n (pc' := 2) F 1 dX12_partner_1 rfl rfl rfl ?_
  refine jy_iload_n (pc' := 3) F 2 dX12_partner_2 rfl rfl rfl ?_
  refine jy_callSi (pc' := 6) (jy_runV (As := [.int i1, .int i2]) (b := m0) (q0 := 0) (ci := 11) (C := RX12) (T := TX12) (N := 51) (st := []) F hN (fun sz => c_X12_isWordCall l D k m0 b1 b2 b3 b4 b5 b6 b7 w0 w1 w2 w3 w4 w5 w6 w7 w8 w9 w10 w11 w12 w13 w14 w15 w16 w17 w18 w19 w20 w21 w22 i1 i2 sz ) (jy_cV F g_c_X12_partner_c_X12_isWordCall rfl hdX12_isWordCall (List.mem_of_getElem? (i := 3) rfl) (List.mem_of_getElem? (i := 12) rfl) (List.mem_of_getElem? (i := 10) rfl) (List.mem_of_getElem? (i := 11) rfl) rfl rfl ⟨by decide, by decide⟩) rfl rfl [0] rfl (by decide) rfl rfl (Nat.le_of_ble_eq_true rfl) dX12_partner_3 ⟨by decide, by decide⟩) rfl (fun r_1 e_2 => ?_)
  rcases e_2 with ⟨z_4, h_3⟩ | ⟨z_5, h_3⟩
  · subst z_4
    refine jy_if_eq (pc' := 9) (tgt := 18) F dX12_partner_6 (by decide) rfl (fun h => absurd h (by decide)) (fun _ => ?_)
    refine jy_iload_n (pc' := 10) F 3 dX12_partner_9 rfl rfl rfl ?_
    refine jy_if_lt (pc' := 13) (tgt := 18) F dX12_partner_10 (by decide) rfl (fun h_7 => ?_) (fun h_7 => ?_)
    · refine jy_aload_n (pc' := 19) F 0 dX12_partner_18 rfl rfl rfl ?_
      refine jy_iconst (pc' := 20) (v := 1) F dX12_partner_19 (by decide) rfl ?_
      refine jy_calli (pc' := 23) (cells' := 0) (slots' := 0) (wr := [(b4, .inl (k.2.1, 4, .inl fm))]) hA [0] [1] rfl rfl (by decide) (by decide) (jy_runV (As := [.int 1]) (b := m0) (q0 := 0) (ci := 11) (C := RX12) (T := TX12) (N := 51) (st := []) F hN (fun sz => c_X12_refuse l D k m0 0 (.ref b1) (.ref b2) (.long 0) (.long 1) (.ref b3) (.ref b4) (.ref b5) (.ref b6) (.ref b7) (.int 0) (.int 0) (.int 0) (.int 0) (.int 0) (.int 0) (.int (-1)) (.int (-1)) (.int 0) (.int 0) (.ref w0) (.ref w1) (.ref w2) (.ref w3) (.ref w4) (.ref w5) (.ref w6) (.ref w7) (.ref w8) (.ref w9) (.int 0) (.int 0) (.int 0) (.ref w10) (.ref w11) (.int 0) (.ref w12) (.ref w13) (.ref w14) (.ref w15) (.ref w16) (.ref w17) (.ref w18) (.ref w19) (.ref w20) (.int 0) (.ref w21) (.ref w22) (.int 0) (.int 0) (.int 0) 1 sz ) (jy_cV F g_c_X12_partner_c_X12_refuse rfl hdX12_refuse (List.mem_of_getElem? (i := 3) rfl) (List.mem_of_getElem? (i := 17) rfl) (List.mem_of_getElem? (i := 15) rfl) (List.mem_of_getElem? (i := 16) rfl) rfl rfl ⟨by decide, by decide⟩) rfl rfl [0] rfl (by decide) rfl rfl (Nat.le_of_ble_eq_true rfl) dX12_partner_20 ⟨by decide, by decide⟩) rfl rfl rfl (fun r_10 u_8 e_9 => ?_)
      subst e_9
      refine jy_widen (cells' := 0) (slots' := 0) (by decide) (by decide) ?_
      exact jy_iret (v := (-1)) F hr hlk () (rfl) [] rfl (by decide) dX12_partner_23
    · refine jy_iload_n (pc' := 14) F 3 dX12_partner_13 rfl rfl rfl ?_
      refine jy_iload_n (pc' := 15) F 2 dX12_partner_14 rfl rfl rfl ?_
      refine jy_icmp_lt (pc' := 18) (tgt := 24) F dX12_partner_15 (by decide) rfl (fun h_11 => ?_) (fun h_11 => ?_)
      · refine jy_aload_n (pc' := 25) F 0 dX12_partner_24 rfl rfl rfl ?_
        refine jy_iload_n (pc' := 26) F 1 dX12_partner_25 rfl rfl rfl ?_
        refine jy_iload_n (pc' := 27) F 2 dX12_partner_26 rfl rfl rfl ?_
        obtain ⟨ti1, hti1, rfl⟩ := jy_lt4 h_3.1 h_3.2
        refine jy_callSi (pc' := 30) (jy_runV (As := [.int (nI ti1), .int i2]) (b := m0) (q0 := 0) (ci := 11) (C := RX12) (T := TX12) (N := 51) (st := []) F hN (fun sz => c_X12_wrongWord l D k m0 b1 b2 b3 b4 b5 b6 b7 w0 w1 w2 w3 w4 w5 w6 w7 w8 w9 w10 w11 w12 w13 w14 w15 w16 w17 w18 w19 w20 w21 w22 fm ti1 i2 sz (hm) (by omega)) (jy_cV F g_c_X12_partner_c_X12_wrongWord rfl hdX12_wrongWord (List.mem_of_getElem? (i := 3) rfl) (List.mem_of_getElem? (i := 22) rfl) (List.mem_of_getElem? (i := 20) rfl) (List.mem_of_getElem? (i := 21) rfl) rfl rfl ⟨by decide, by decide⟩) rfl rfl [0, 1] rfl (by decide) rfl rfl (Nat.le_of_ble_eq_true rfl) dX12_partner_27 ⟨by decide, by decide⟩) rfl (fun r_12 e_13 => ?_)
        subst e_13
        refine jy_istore (pc' := 32) (lv' := [(4, .int 2), (0, .ref m0), (1, .int (nI ti1)), (2, .int i2), (3, .int i3)]) F dX12_partner_30 (by decide) rfl rfl ?_
        refine jy_iload (pc' := 34) F 0 dX12_partner_32 rfl rfl ?_
        refine jy_if_le (pc' := 37) (tgt := 44) F dX12_partner_34 (by decide) rfl (fun h => absurd h (by decide)) (fun _ => ?_)
        refine jy_aload_n (pc' := 38) F 1 dX12_partner_37 rfl rfl rfl ?_
        refine jy_iload (pc' := 40) F 0 dX12_partner_38 rfl rfl ?_
        refine jy_calli (pc' := 43) (cells' := 0) (slots' := 0) (wr := [(b4, .inl (k.2.1, 4, .inl fm))]) hA [0] [1] rfl rfl (by decide) (by decide) (jy_runV (As := [.int 2]) (b := m0) (q0 := 0) (ci := 11) (C := RX12) (T := TX12) (N := 51) (st := []) F hN (fun sz => c_X12_refuse l D k m0 0 (.ref b1) (.ref b2) (.long 0) (.long 1) (.ref b3) (.ref b4) (.ref b5) (.ref b6) (.ref b7) (.int 0) (.int 0) (.int 0) (.int 0) (.int 0) (.int 0) (.int (-1)) (.int (-1)) (.int 0) (.int 0) (.ref w0) (.ref w1) (.ref w2) (.ref w3) (.ref w4) (.ref w5) (.ref w6) (.ref w7) (.ref w8) (.ref w9) (.int 0) (.int 0) (.int 0) (.ref w10) (.ref w11) (.int 0) (.ref w12) (.ref w13) (.ref w14) (.ref w15) (.ref w16) (.ref w17) (.ref w18) (.ref w19) (.ref w20) (.int 0) (.ref w21) (.ref w22) (.int 0) (.int 0) (.int 0) 2 sz ) (jy_cV F g_c_X12_partner_c_X12_refuse rfl hdX12_refuse (List.mem_of_getElem? (i := 3) rfl) (List.mem_of_getElem? (i := 17) rfl) (List.mem_of_getElem? (i := 15) rfl) (List.mem_of_getElem? (i := 16) rfl) rfl rfl ⟨by decide, by decide⟩) rfl rfl [0] rfl (by decide) rfl rfl (Nat.le_of_ble_eq_true rfl) dX12_partner_40 ⟨by decide, by decide⟩) rfl rfl rfl (fun r_17 u_15 e_16 => ?_)
        subst e_16
        refine jy_widen (cells' := 0) (slots' := 0) (by decide) (by decide) ?_
        exact jy_iret (v := (-1)) F hr hlk () (rfl) [] rfl (by decide) dX12_partner_43
      · refine jy_aload_n (pc' := 19) F 0 dX12_partner_18 rfl rfl rfl ?_
        refine jy_iconst (pc' := 20) (v := 1) F dX12_partner_19 (by decide) rfl ?_
        refine jy_calli (pc' := 23) (cells' := 0) (slots' := 0) (wr := [(b4, .inl (k.2.1, 4, .inl fm))]) hA [0] [1] rfl rfl (by decide) (by decide) (jy_runV (As := [.int 1]) (b := m0) (q0 := 0) (ci := 11) (C := RX12) (T := TX12) (N := 51) (st := []) F hN (fun sz => c_X12_refuse l D k m0 0 (.ref b1) (.ref b2) (.long 0) (.long 1) (.ref b3) (.ref b4) (.ref b5) (.ref b6) (.ref b7) (.int 0) (.int 0) (.int 0) (.int 0) (.int 0) (.int 0) (.int (-1)) (.int (-1)) (.int 0) (.int 0) (.ref w0) (.ref w1) (.ref w2) (.ref w3) (.ref w4) (.ref w5) (.ref w6) (.ref w7) (.ref w8) (.ref w9) (.int 0) (.int 0) (.int 0) (.ref w10) (.ref w11) (.int 0) (.ref w12) (.ref w13) (.ref w14) (.ref w15) (.ref w16) (.ref w17) (.ref w18) (.ref w19) (.ref w20) (.int 0) (.ref w21) (.ref w22) (.int 0) (.int 0) (.int 0) 1 sz ) (jy_cV F g_c_X12_partner_c_X12_refuse rfl hdX12_refuse (List.mem_of_getElem? (i := 3) rfl) (List.mem_of_getElem? (i := 17) rfl) (List.mem_of_getElem? (i := 15) rfl) (List.mem_of_getElem? (i := 16) rfl) rfl rfl ⟨by decide, by decide⟩) rfl rfl [0] rfl (by decide) rfl rfl (Nat.le_of_ble_eq_true rfl) dX12_partner_20 ⟨by decide, by decide⟩) rfl rfl rfl (fun r_20 u_18 e_19 => ?_)
        subst e_19
        refine jy_widen (cells' := 0) (slots' := 0) (by decide) (by decide) ?_
        exact jy_iret (v := (-1)) F hr hlk () (rfl) [] rfl (by decide) dX12_partner_23
  · subst z_5
    refine jy_if_eq (pc' := 9) (tgt := 18) F dX12_partner_6 (by decide) rfl (fun _ => ?_) (fun h => absurd h (by decide))
    refine jy_aload_n (pc' := 19) F 0 dX12_partner_18 rfl rfl rfl ?_
    refine jy_iconst (pc' := 20) (v := 1) F dX12_partner_19 (by decide) rfl ?_
    refine jy_calli (pc' := 23) (cells' := 0) (slots' := 0) (wr := [(b4, .inl (k.2.1, 4, .inl fm))]) hA [0] [1] rfl rfl (by decide) (by decide) (jy_runV (As := [.int 1]) (b := m0) (q0 := 0) (ci := 11) (C := RX12) (T := TX12) (N := 51) (st := []) F hN (fun sz => c_X12_refuse l D k m0 0 (.ref b1) (.ref b2) (.long 0) (.long 1) (.ref b3) (.ref b4) (.ref b5) (.ref b6) (.ref b7) (.int 0) (.int 0) (.int 0) (.int 0) (.int 0) (.int 0) (.int (-1)) (.int (-1)) (.int 0) (.int 0) (.ref w0) (.ref w1) (.ref w2) (.ref w3) (.ref w4) (.ref w5) (.ref w6) (.ref w7) (.ref w8) (.ref w9) (.int 0) (.int 0) (.int 0) (.ref w10) (.ref w11) (.int 0) (.ref w12) (.ref w13) (.ref w14) (.ref w15) (.ref w16) (.ref w17) (.ref w18) (.ref w19) (.ref w20) (.int 0) (.ref w21) (.ref w22) (.int 0) (.int 0) (.int 0) 1 sz ) (jy_cV F g_c_X12_partner_c_X12_refuse rfl hdX12_refuse (List.mem_of_getElem? (i := 3) rfl) (List.mem_of_getElem? (i := 17) rfl) (List.mem_of_getElem? (i := 15) rfl) (List.mem_of_getElem? (i := 16) rfl) rfl rfl ⟨by decide, by decide⟩) rfl rfl [0] rfl (by decide) rfl rfl (Nat.le_of_ble_eq_true rfl) dX12_partner_20 ⟨by decide, by decide⟩) rfl rfl rfl (fun r_24 u_22 e_23 => ?_)
    subst e_23
    refine jy_widen (cells' := 0) (slots' := 0) (by decide) (by decide) ?_
    exact jy_iret (v := (-1)) F hr hlk () (rfl) [] rfl (by decide) dX12_partner_23
abbrev cX12_sample : ByteArray := prog_14_method_142_code
def yX12_sample : MethodName := ⟨RX12, "sample", "(III)Z"⟩
theorem hdX12_sample : yX12_sample.cls ≠ "java/lang/invoke/MethodHandle" ∧ yX12_sample.cls ≠ "java/lang/invoke/VarHandle" ∧ (parseMethodDescriptor yX12_sample.desc).map (fun d => d.parameters.length) = some 3 := by decide +kernel
theorem dX12_sample_0 : decode cX12_sample 0 = .ok (.aload_n 0, 1) := by decide +kernel
theorem dX12_sample_1 : decode cX12_sample 1 = .ok (.iload_n 1, 1) := by decide +kernel
theorem dX12_sample_2 : decode cX12_sample 2 = .ok (.iload_n 2, 1) := by decide +kernel
theorem dX12_sample_3 : decode cX12_sample 3 = .ok (.invokevirtual 358, 3) := by decide +kernel
theorem dX12_sample_6 : decode cX12_sample 6 = .ok (.ifCond .eq 15, 3) := by decide +kernel
theorem dX12_sample_9 : decode cX12_sample 9 = .ok (.iload_n 3, 1) := by decide +kernel
theorem dX12_sample_10 : decode cX12_sample 10 = .ok (.i2l, 1) := by decide +kernel
theorem dX12_sample_11 : decode cX12_sample 11 = .ok (.lconst 0, 1) := by decide +kernel
theorem dX12_sample_12 : decode cX12_sample 12 = .ok (.ldc2_w 515, 3) := by decide +kernel
theorem dX12_sample_15 : decode cX12_sample 15 = .ok (.invokestatic 338, 3) := by decide +kernel
theorem dX12_sample_18 : decode cX12_sample 18 = .ok (.ifCond .ne 9, 3) := by decide +kernel
theorem dX12_sample_21 : decode cX12_sample 21 = .ok (.aload_n 0, 1) := by decide +kernel
theorem dX12_sample_22 : decode cX12_sample 22 = .ok (.iconst 1, 1) := by decide +kernel
theorem dX12_sample_23 : decode cX12_sample 23 = .ok (.invokevirtual 130, 3) := by decide +kernel
theorem dX12_sample_26 : decode cX12_sample 26 = .ok (.ireturn, 1) := by decide +kernel
theorem dX12_sample_27 : decode cX12_sample 27 = .ok (.aload_n 0, 1) := by decide +kernel
theorem dX12_sample_28 : decode cX12_sample 28 = .ok (.getfield 24, 3) := by decide +kernel
theorem dX12_sample_31 : decode cX12_sample 31 = .ok (.iload_n 1, 1) := by decide +kernel
theorem dX12_sample_32 : decode cX12_sample 32 = .ok (.iaload, 1) := by decide +kernel
theorem dX12_sample_33 : decode cX12_sample 33 = .ok (.iconst (-1), 1) := by decide +kernel
theorem dX12_sample_34 : decode cX12_sample 34 = .ok (.if_icmp .ne 9, 3) := by decide +kernel
theorem dX12_sample_37 : decode cX12_sample 37 = .ok (.aload_n 0, 1) := by decide +kernel
theorem dX12_sample_38 : decode cX12_sample 38 = .ok (.iconst 2, 1) := by decide +kernel
theorem dX12_sample_39 : decode cX12_sample 39 = .ok (.invokevirtual 130, 3) := by decide +kernel
theorem dX12_sample_42 : decode cX12_sample 42 = .ok (.ireturn, 1) := by decide +kernel
def ws_c_X12_sample : List Cond := .code yX12_sample cX12_sample 5 (some .boolean) :: ([.code ⟨"NestedCheckerModel", "isWordCall", "(II)Z"⟩ cX12_isWordCall 3 (some .boolean), .code ⟨"NestedCheckerModel", "isTray", "(I)Z"⟩ cX12_isTray 1 (some .boolean), .initialized "NestedCheckerModel", .static ⟨"NestedCheckerModel", "isTray", "(I)Z"⟩, .methodLink "NestedCheckerModel" 134 ⟨"NestedCheckerModel", "isTray", "(I)Z"⟩, .constantLong "NestedCheckerModel" 356 (20 : Int64), .code ⟨"NestedCheckerModel", "isFrom", "(JJJ)Z"⟩ cX12_isFrom 6 (some .boolean), .static ⟨"NestedCheckerModel", "isFrom", "(JJJ)Z"⟩, .methodLink "NestedCheckerModel" 338 ⟨"NestedCheckerModel", "isFrom", "(JJJ)Z"⟩, .instanceMethod ⟨"NestedCheckerModel", "isWordCall", "(II)Z"⟩, .selects "NestedCheckerModel" ⟨"NestedCheckerModel", "isWordCall", "(II)Z"⟩ ⟨"NestedCheckerModel", "isWordCall", "(II)Z"⟩, .methodLink "NestedCheckerModel" 358 ⟨"NestedCheckerModel", "isWordCall", "(II)Z"⟩, .constantLong "NestedCheckerModel" 515 (9999 : Int64), .fieldLink "NestedCheckerModel" 24 "NestedCheckerModel" "trayMany" "[I", .code ⟨"NestedCheckerModel", "is", "(I)Z"⟩ cX12_is 2 (some .boolean), .fieldLink "NestedCheckerModel" 117 "NestedCheckerModel" "status" "I", .instanceMethod ⟨"NestedCheckerModel", "is", "(I)Z"⟩, .selects "NestedCheckerModel" ⟨"NestedCheckerModel", "is", "(I)Z"⟩ ⟨"NestedCheckerModel", "is", "(I)Z"⟩, .methodLink "NestedCheckerModel" 130 ⟨"NestedCheckerModel", "is", "(I)Z"⟩] ++ wsX120)
set_option maxRecDepth 20000 in
theorem g_c_X12_sample_c_X12_isWordCall : GoodIn ws_c_X12_sample ws_c_X12_isWordCall := goodIn_r _ [1, 2, 3, 4, 5, 6, 7, 8, 9] (by decide +kernel) (by decide +kernel)
set_option maxRecDepth 20000 in
theorem g_c_X12_sample_c_X12_isFrom : GoodIn ws_c_X12_sample ws_c_X12_isFrom := goodIn_r _ [7] (by decide +kernel) (by decide +kernel)
set_option maxRecDepth 20000 in
theorem g_c_X12_sample_c_X12_is_2 : GoodIn ws_c_X12_sample ws_c_X12_is_2 := goodIn_r _ [15, 16, 20, 21, 22, 23, 24, 25, 26, 27, 28, 29, 30, 31, 32, 33, 34, 35, 36, 37, 38, 39, 40, 41, 42, 43, 44, 45, 46, 47, 48, 49, 50, 51, 52, 53, 54, 55, 56, 57, 58, 59, 60, 61, 62, 63, 64, 65, 66, 67, 68, 69, 70] (by decide +kernel) (by decide +kernel)
set_option maxRecDepth 20000 in
theorem g_c_X12_sample_c_X12_is_1 : GoodIn ws_c_X12_sample ws_c_X12_is_1 := goodIn_r _ [15, 16, 20, 21, 22, 23, 24, 25, 26, 27, 28, 29, 30, 31, 32, 33, 34, 35, 36, 37, 38, 39, 40, 41, 42, 43, 44, 45, 46, 47, 48, 49, 50, 51, 52, 53, 54, 55, 56, 57, 58, 59, 60, 61, 62, 63, 64, 65, 66, 67, 68, 69, 70] (by decide +kernel) (by decide +kernel)
set_option maxHeartbeats 4000000 in
set_option maxRecDepth 100000 in
theorem c_X12_sample (l : Launch) (D : va_G) (k : jK) (m0 : Nat) (b1 : Nat) (b2 : Nat) (b3 : Nat) (b4 : Nat) (b5 : Nat) (b6 : Nat) (b7 : Nat) (w0 : Nat) (w1 : Nat) (w2 : Nat) (w3 : Nat) (w4 : Nat) (w5 : Nat) (w6 : Nat) (w7 : Nat) (w8 : Nat) (w9 : Nat) (w10 : Nat) (w11 : Nat) (w12 : Nat) (w13 : Nat) (w14 : Nat) (w15 : Nat) (w16 : Nat) (w17 : Nat) (w18 : Nat) (w19 : Nat) (w20 : Nat) (w21 : Nat) (w22 : Nat) (fm : Nat → Int32) (i1 : Int32) (i2 : Int32) (i3 : Int32) (sz : Nat) (hm : ∀ j, j < 4 → fm j = -1) : Met l yX12_sample ws_c_X12_sample ({ frames := 2, cells := 0, slots := 0, locals := 47 }) (jy_P [.ref m0, .int i1, .int i2, .int i3] D vwCl (jT k) jW [(m0, .inr (11, [.ref b1, .ref b2, .int 0, .long 0, .long 1, .ref b3, .ref b4, .ref b5, .ref b6, .ref b7, .int 0, .int 0, .int 0, .int 0, .int 0, .int 0, .int (-1), .int (-1), .int 0, .int 0, .ref w0, .ref w1, .ref w2, .ref w3, .ref w4, .ref w5, .ref w6, .ref w7, .ref w8, .ref w9, .int 0, .int 0, .int 0, .ref w10, .ref w11, .int 0, .ref w12, .ref w13, .ref w14, .ref w15, .ref w16, .ref w17, .ref w18, .ref w19, .ref w20, .int 0, .ref w21, .ref w22, .int 0, .int 0, .int 0])), (b4, .inl (k.2.1, 4, .inl fm))] sz) (va_Qi (fun (r : Int32) (u : Unit) => r = 0) (jy_B D vwCl (va_A [(m0, .inr (11, [.ref b1, .ref b2, .int 0, .long 0, .long 1, .ref b3, .ref b4, .ref b5, .ref b6, .ref b7, .int 0, .int 0, .int 0, .int 0, .int 0, .int 0, .int (-1), .int (-1), .int 0, .int 0, .ref w0, .ref w1, .ref w2, .ref w3, .ref w4, .ref w5, .ref w6, .ref w7, .ref w8, .ref w9, .int 0, .int 0, .int 0, .ref w10, .ref w11, .int 0, .ref w12, .ref w13, .ref w14, .ref w15, .ref w16, .ref w17, .ref w18, .ref w19, .ref w20, .int 0, .ref w21, .ref w22, .int 0, .int 0, .int 0])), (b4, .inl (k.2.1, 4, .inl fm))] sz) (fun (u : Unit) => [])) (va_A [(m0, .inr (11, [.ref b1, .ref b2, .int 0, .long 0, .long 1, .ref b3, .ref b4, .ref b5, .ref b6, .ref b7, .int 0, .int 0, .int 0, .int 0, .int 0, .int 0, .int (-1), .int (-1), .int 0, .int 0, .ref w0, .ref w1, .ref w2, .ref w3, .ref w4, .ref w5, .ref w6, .ref w7, .ref w8, .ref w9, .int 0, .int 0, .int 0, .ref w10, .ref w11, .int 0, .ref w12, .ref w13, .ref w14, .ref w15, .ref w16, .ref w17, .ref w18, .ref w19, .ref w20, .int 0, .ref w21, .ref w22, .int 0, .int 0, .int 0])), (b4, .inl (k.2.1, 4, .inl fm))] sz)) 0 0 (va_A [(m0, .inr (11, [.ref b1, .ref b2, .int 0, .long 0, .long 1, .ref b3, .ref b4, .ref b5, .ref b6, .ref b7, .int 0, .int 0, .int 0, .int 0, .int 0, .int 0, .int (-1), .int (-1), .int 0, .int 0, .ref w0, .ref w1, .ref w2, .ref w3, .ref w4, .ref w5, .ref w6, .ref w7, .ref w8, .ref w9, .int 0, .int 0, .int 0, .ref w10, .ref w11, .int 0, .ref w12, .ref w13, .ref w14, .ref w15, .ref w16, .ref w17, .ref w18, .ref w19, .ref w20, .int 0, .ref w21, .ref w22, .int 0, .int 0, .int 0])), (b4, .inl (k.2.1, 4, .inl fm))] sz) := by
  refine jy_met (cc := cX12_sample) (maxL := 5) (ret := (some .boolean)) (lv := [(0, .ref m0), (1, .int i1), (2, .int i2), (3, .int i3)]) (by decide) rfl (Nat.le_of_ble_eq_true rfl) rfl ?_
  intro p e s m below meth c F hr hlk hnm hN hA
  have hiX12 : ∀ w ∈ u_ws RX12 TX12 51, w ∈ ws_c_X12_sample := fun w hw => List.mem_cons_of_mem _ (List.mem_append_right _ hw)
  refine jy_aload_n (pc' := 1) F 0 dX12_sample_0 rfl rfl rfl ?_
  refine jy_iload_n (pc' := 2) F 1 dX12_sample_1 rfl rfl rfl ?_
  refine jy_iload_n (pc' := 3) F 2 dX12_sample_2 rfl rfl rfl ?_
  refine jy_callSi (pc' := 6) (jy_runV (As := [.int i1, .int i2]) (b := m0) (q0 := 0) (ci := 11) (C := RX12) (T := TX12) (N := 51) (st := []) F hN (fun sz => c_X12_isWordCall l D k m0 b1 b2 b3 b4 b5 b6 b7 w0 w1 w2 w3 w4 w5 w6 w7 w8 w9 w10 w11 w12 w13 w14 w15 w16 w17 w18 w19 w20 w21 w22 i1 i2 sz ) (jy_cV F g_c_X12_sample_c_X12_isWordCall rfl hdX12_isWordCall (List.mem_of_getElem? (i := 3) rfl) (List.mem_of_getElem? (i := 12) rfl) (List.mem_of_getElem? (i := 10) rfl) (List.mem_of_getElem? (i := 11) rfl) rfl rfl ⟨by decide, by decide⟩) rfl rfl [0] rfl (by decide) rfl rfl (Nat.le_of_ble_eq_true rfl) dX12_sample_3 ⟨by decide, by decide⟩) rfl (fun r_1 e_2 => ?_)
  rcases e_2 with ⟨z_4, h_3⟩ | ⟨z_5, h_3⟩
  · subst z_4
    refine jy_if_eq (pc' := 9) (tgt := 21) F dX12_sample_6 (by decide) rfl (fun h => absurd h (by decide)) (fun _ => ?_)
    refine jy_iload_n (pc' := 10) F 3 dX12_sample_9 rfl rfl rfl ?_
    refine jy_i2l (pc' := 11) (v := ((i3).toInt64)) F dX12_sample_10 rfl rfl ?_
    refine jy_lconst (pc' := 12) (v := 0) F dX12_sample_11 (by decide) rfl ?_
    refine jy_ldc2 (pc' := 15) (v := 9999) F dX12_sample_12 (List.mem_of_getElem? (i := 13) rfl) rfl ?_
    refine jy_callSi (pc' := 18) (jy_runS (As := [.long ((i3).toInt64), .long 0, .long 9999]) (st := []) F hN (fun sz => c_X12_isFrom l D k ((i3).toInt64) 0 9999 sz ) (jy_cS F g_c_X12_sample_c_X12_isFrom rfl hdX12_isFrom (List.mem_of_getElem? (i := 3) rfl) (List.mem_of_getElem? (i := 9) rfl) (List.mem_of_getElem? (i := 8) rfl) rfl rfl ⟨by decide, by decide⟩) [] rfl (by decide) rfl rfl (Nat.le_of_ble_eq_true rfl) dX12_sample_15 ⟨by decide, by decide⟩) rfl (fun r_7 e_8 => ?_)
    rcases e_8 with ⟨z_10, h_9⟩ | ⟨z_11, h_9⟩
    · subst z_10
      refine jy_if_ne (pc' := 21) (tgt := 27) F dX12_sample_18 (by decide) rfl (fun _ => ?_) (fun h => absurd h (by decide))
      refine jy_aload_n (pc' := 28) F 0 dX12_sample_27 rfl rfl rfl ?_
      refine jy_get (pc' := 31) (C := RX12) (T := TX12) (N := 51) (ci := 11) (v := .ref b4) F hiX12 0 rfl rfl 6 (by decide) dX12_sample_28 (List.mem_of_getElem? (i := 14) rfl) rfl rfl ?_
      refine jy_iload_n (pc' := 32) F 1 dX12_sample_31 rfl rfl rfl ?_
      obtain ⟨ti1, hti1, rfl⟩ := jy_lt4 h_3.1 h_3.2
      refine jy_iald (pc' := 33) (v := (-1)) F 1 1 rfl rfl dX12_sample_32 (vp_in_nI (n := ti1) (by omega) (by omega)) (by first | exact hm _ (by decide) | (rw [nI_clamp (by omega)]; exact hm _ (by omega))) rfl ?_
      refine jy_iconst (pc' := 34) (v := (-1)) F dX12_sample_33 (by decide) rfl ?_
      refine jy_icmp_ne (pc' := 37) (tgt := 43) F dX12_sample_34 (by decide) rfl (fun h => absurd h (by decide)) (fun _ => ?_)
      refine jy_aload_n (pc' := 38) F 0 dX12_sample_37 rfl rfl rfl ?_
      refine jy_iconst (pc' := 39) (v := 2) F dX12_sample_38 (by decide) rfl ?_
      refine jy_calli (pc' := 42) (cells' := 0) (slots' := 0) (wr := [(b4, .inl (k.2.1, 4, .inl fm))]) hA [0] [1] rfl rfl (by decide) (by decide) (jy_runV (As := [.int 2]) (b := m0) (q0 := 0) (ci := 11) (C := RX12) (T := TX12) (N := 51) (st := []) F hN (fun sz => c_X12_is_2 l D k m0 0 (.ref b1) (.ref b2) (.long 0) (.long 1) (.ref b3) (.ref b4) (.ref b5) (.ref b6) (.ref b7) (.int 0) (.int 0) (.int 0) (.int 0) (.int 0) (.int 0) (.int (-1)) (.int (-1)) (.int 0) (.int 0) (.ref w0) (.ref w1) (.ref w2) (.ref w3) (.ref w4) (.ref w5) (.ref w6) (.ref w7) (.ref w8) (.ref w9) (.int 0) (.int 0) (.int 0) (.ref w10) (.ref w11) (.int 0) (.ref w12) (.ref w13) (.ref w14) (.ref w15) (.ref w16) (.ref w17) (.ref w18) (.ref w19) (.ref w20) (.int 0) (.ref w21) (.ref w22) (.int 0) (.int 0) (.int 0) sz ) (jy_cV F g_c_X12_sample_c_X12_is_2 rfl hdX12_is (List.mem_of_getElem? (i := 3) rfl) (List.mem_of_getElem? (i := 19) rfl) (List.mem_of_getElem? (i := 17) rfl) (List.mem_of_getElem? (i := 18) rfl) rfl rfl ⟨by decide, by decide⟩) rfl rfl [0] rfl (by decide) rfl rfl (Nat.le_of_ble_eq_true rfl) dX12_sample_39 ⟨by decide, by decide⟩) rfl rfl rfl (fun r_16 u_14 e_15 => ?_)
      subst e_15
      refine jy_widen (cells' := 0) (slots' := 0) (by decide) (by decide) ?_
      exact jy_zret (v := 0) F hr hlk (by first | rfl | decide) () (rfl) [] rfl (by decide) dX12_sample_42
    · subst z_11
      refine jy_if_ne (pc' := 21) (tgt := 27) F dX12_sample_18 (by decide) rfl (fun h => absurd h (by decide)) (fun _ => ?_)
      refine jy_aload_n (pc' := 22) F 0 dX12_sample_21 rfl rfl rfl ?_
      refine jy_iconst (pc' := 23) (v := 1) F dX12_sample_22 (by decide) rfl ?_
      refine jy_calli (pc' := 26) (cells' := 0) (slots' := 0) (wr := [(b4, .inl (k.2.1, 4, .inl fm))]) hA [0] [1] rfl rfl (by decide) (by decide) (jy_runV (As := [.int 1]) (b := m0) (q0 := 0) (ci := 11) (C := RX12) (T := TX12) (N := 51) (st := []) F hN (fun sz => c_X12_is_1 l D k m0 0 (.ref b1) (.ref b2) (.long 0) (.long 1) (.ref b3) (.ref b4) (.ref b5) (.ref b6) (.ref b7) (.int 0) (.int 0) (.int 0) (.int 0) (.int 0) (.int 0) (.int (-1)) (.int (-1)) (.int 0) (.int 0) (.ref w0) (.ref w1) (.ref w2) (.ref w3) (.ref w4) (.ref w5) (.ref w6) (.ref w7) (.ref w8) (.ref w9) (.int 0) (.int 0) (.int 0) (.ref w10) (.ref w11) (.int 0) (.ref w12) (.ref w13) (.ref w14) (.ref w15) (.ref w16) (.ref w17) (.ref w18) (.ref w19) (.ref w20) (.int 0) (.ref w21) (.ref w22) (.int 0) (.int 0) (.int 0) sz ) (jy_cV F g_c_X12_sample_c_X12_is_1 rfl hdX12_is (List.mem_of_getElem? (i := 3) rfl) (List.mem_of_getElem? (i := 19) rfl) (List.mem_of_getElem? (i := 17) rfl) (List.mem_of_getElem? (i := 18) rfl) rfl rfl ⟨by decide, by decide⟩) rfl rfl [0] rfl (by decide) rfl rfl (Nat.le_of_ble_eq_true rfl) dX12_sample_23 ⟨by decide, by decide⟩) rfl rfl rfl (fun r_20 u_18 e_19 => ?_)
      subst e_19
      refine jy_widen (cells' := 0) (slots' := 0) (by decide) (by decide) ?_
      exact jy_zret (v := 0) F hr hlk (by first | rfl | decide) () (rfl) [] rfl (by decide) dX12_sample_26
  · subst z_5
    refine jy_if_eq (pc' := 9) (tgt := 21) F dX12_sample_6 (by decide) rfl (fun _ => ?_) (fun h => absurd h (by decide))
    refine jy_aload_n (pc' := 22) F 0 dX12_sample_21 rfl rfl rfl ?_
    refine jy_iconst (pc' := 23) (v := 1) F dX12_sample_22 (by decide) rfl ?_
    refine jy_calli (pc' := 26) (cells' := 0) (slots' := 0) (wr := [(b4, .inl (k.2.1, 4, .inl fm))]) hA [0] [1] rfl rfl (by decide) (by decide) (jy_runV (As := [.int 1]) (b := m0) (q0 := 0) (ci := 11) (C := RX12) (T := TX12) (N := 51) (st := []) F hN (fun sz => c_X12_is_1 l D k m0 0 (.ref b1) (.ref b2) (.long 0) (.long 1) (.ref b3) (.ref b4) (.ref b5) (.ref b6) (.ref b7) (.int 0) (.int 0) (.int 0) (.int 0) (.int 0) (.int 0) (.int (-1)) (.int (-1)) (.int 0) (.int 0) (.ref w0) (.ref w1) (.ref w2) (.ref w3) (.ref w4) (.ref w5) (.ref w6) (.ref w7) (.ref w8) (.ref w9) (.int 0) (.int 0) (.int 0) (.ref w10) (.ref w11) (.int 0) (.ref w12) (.ref w13) (.ref w14) (.ref w15) (.ref w16) (.ref w17) (.ref w18) (.ref w19) (.ref w20) (.int 0) (.ref w21) (.ref w22) (.int 0) (.int 0) (.int 0) sz ) (jy_cV F g_c_X12_sample_c_X12_is_1 rfl hdX12_is (List.mem_of_getElem? (i := 3) rfl) (List.mem_of_getElem? (i := 19) rfl) (List.mem_of_getElem? (i := 17) rfl) (List.mem_of_getElem? (i := 18) rfl) rfl rfl ⟨by decide, by decide⟩) rfl rfl [0] rfl (by decide) rfl rfl (Nat.le_of_ble_eq_true rfl) dX12_sample_23 ⟨by decide, by decide⟩) rfl rfl rfl (fun r_24 u_22 e_23 => ?_)
    subst e_23
    refine jy_widen (cells' := 0) (slots' := 0) (by decide) (by decide) ?_
    exact jy_zret (v := 0) F hr hlk (by first | rfl | decide) () (rfl) [] rfl (by decide) dX12_sample_26
abbrev cX12_four : ByteArray := prog_14_method_20_code
def yX12_four : MethodName := ⟨RX12, "four", "(I)V"⟩
theorem hdX12_four : yX12_four.cls ≠ "java/lang/invoke/MethodHandle" ∧ yX12_four.cls ≠ "java/lang/invoke/VarHandle" ∧ (parseMethodDescriptor yX12_four.desc).map (fun d => d.parameters.length) = some 1 := by decide +kernel
theorem dX12_four_0 : decode cX12_four 0 = .ok (.bipush 24, 2) := by decide +kernel
theorem dX12_four_2 : decode cX12_four 2 = .ok (.istore_n 2, 1) := by decide +kernel
theorem dX12_four_3 : decode cX12_four 3 = .ok (.iload_n 2, 1) := by decide +kernel
theorem dX12_four_4 : decode cX12_four 4 = .ok (.ifCond .lt 32, 3) := by decide +kernel
theorem dX12_four_7 : decode cX12_four 7 = .ok (.aload_n 0, 1) := by decide +kernel
theorem dX12_four_8 : decode cX12_four 8 = .ok (.getfield 30, 3) := by decide +kernel
theorem dX12_four_11 : decode cX12_four 11 = .ok (.aload_n 0, 1) := by decide +kernel
theorem dX12_four_12 : decode cX12_four 12 = .ok (.getfield 147, 3) := by decide +kernel
theorem dX12_four_15 : decode cX12_four 15 = .ok (.iload_n 1, 1) := by decide +kernel
theorem dX12_four_16 : decode cX12_four 16 = .ok (.iload_n 2, 1) := by decide +kernel
theorem dX12_four_17 : decode cX12_four 17 = .ok (.ishr, 1) := by decide +kernel
theorem dX12_four_18 : decode cX12_four 18 = .ok (.i2b, 1) := by decide +kernel
theorem dX12_four_19 : decode cX12_four 19 = .ok (.bastore, 1) := by decide +kernel
theorem dX12_four_20 : decode cX12_four 20 = .ok (.aload_n 0, 1) := by decide +kernel
theorem dX12_four_21 : decode cX12_four 21 = .ok (.dup, 1) := by decide +kernel
theorem dX12_four_22 : decode cX12_four 22 = .ok (.getfield 147, 3) := by decide +kernel
theorem dX12_four_25 : decode cX12_four 25 = .ok (.iconst 1, 1) := by decide +kernel
theorem dX12_four_26 : decode cX12_four 26 = .ok (.iadd, 1) := by decide +kernel
theorem dX12_four_27 : decode cX12_four 27 = .ok (.putfield 147, 3) := by decide +kernel
theorem dX12_four_30 : decode cX12_four 30 = .ok (.iinc 2 (-8), 3) := by decide +kernel
theorem dX12_four_33 : decode cX12_four 33 = .ok (.goto (-30), 3) := by decide +kernel
theorem dX12_four_36 : decode cX12_four 36 = .ok (.return_, 1) := by decide +kernel
def ws_c_X12_four_0 : List Cond := .code yX12_four cX12_four 3 none :: ([.fieldLink "NestedCheckerModel" 30 "NestedCheckerModel" "tape" "[B", .fieldLink "NestedCheckerModel" 147 "NestedCheckerModel" "taped" "I"] ++ wsX120)
set_option maxHeartbeats 4000000 in
set_option maxRecDepth 100000 in
theorem c_X12_four_0 (l : Launch) (D : va_G) (k : jK) (m0 : Nat) (b1 : Nat) (b2 : Nat) (b3 : Nat) (b4 : Nat) (b5 : Nat) (b6 : Nat) (b7 : Nat) (w0 : Nat) (w1 : Nat) (w2 : Nat) (w3 : Nat) (w4 : Nat) (w5 : Nat) (w6 : Nat) (w7 : Nat) (w8 : Nat) (w9 : Nat) (w10 : Nat) (w11 : Nat) (w12 : Nat) (w13 : Nat) (w14 : Nat) (w15 : Nat) (w16 : Nat) (w17 : Nat) (w18 : Nat) (w19 : Nat) (w20 : Nat) (w21 : Nat) (w22 : Nat) (ft : Nat → Int32) (y : Int32) (sz : Nat)  : Met l yX12_four ws_c_X12_four_0 ({ frames := 0, cells := 0, slots := 0, locals := 0 }) (jy_P [.ref m0, .int y] D vwCl (jT k) jW [(m0, .inr (11, [.ref b1, .ref b2, .int 0, .long 0, .long 1, .ref b3, .ref b4, .ref b5, .ref b6, .ref b7, .int 0, .int 0, .int 0, .int 0, .int 0, .int 0, .int (-1), .int (-1), .int 0, .int 0, .ref w0, .ref w1, .ref w2, .ref w3, .ref w4, .ref w5, .ref w6, .ref w7, .ref w8, .ref w9, .int 0, .int 0, .int 0, .ref w10, .ref w11, .int 0, .ref w12, .ref w13, .ref w14, .ref w15, .ref w16, .ref w17, .ref w18, .ref w19, .ref w20, .int 0, .ref w21, .ref w22, .int 0, .int 0, .int 0])), (b6, .inl (k.1, 900, .inl ft))] sz) (va_Qv (fun (u : (Nat → Int32)) => True) (jy_B D vwCl (va_A [(m0, .inr (11, [.ref b1, .ref b2, .int 0, .long 0, .long 1, .ref b3, .ref b4, .ref b5, .ref b6, .ref b7, .int 0, .int 0, .int 0, .int 0, .int 0, .int 0, .int (-1), .int (-1), .int 0, .int 0, .ref w0, .ref w1, .ref w2, .ref w3, .ref w4, .ref w5, .ref w6, .ref w7, .ref w8, .ref w9, .int 0, .int 0, .int 0, .ref w10, .ref w11, .int 0, .ref w12, .ref w13, .ref w14, .ref w15, .ref w16, .ref w17, .ref w18, .ref w19, .ref w20, .int 0, .ref w21, .ref w22, .int 0, .int 0, .int 0])), (b6, .inl (k.1, 900, .inl ft))] sz) (fun (u : (Nat → Int32)) => [(m0, .inr (11, [.ref b1, .ref b2, .int 0, .long 0, .long 1, .ref b3, .ref b4, .ref b5, .ref b6, .ref b7, .int 4, .int 0, .int 0, .int 0, .int 0, .int 0, .int (-1), .int (-1), .int 0, .int 0, .ref w0, .ref w1, .ref w2, .ref w3, .ref w4, .ref w5, .ref w6, .ref w7, .ref w8, .ref w9, .int 0, .int 0, .int 0, .ref w10, .ref w11, .int 0, .ref w12, .ref w13, .ref w14, .ref w15, .ref w16, .ref w17, .ref w18, .ref w19, .ref w20, .int 0, .ref w21, .ref w22, .int 0, .int 0, .int 0])), (b6, .inl (k.1, 900, .inl u))])) (va_A [(m0, .inr (11, [.ref b1, .ref b2, .int 0, .long 0, .long 1, .ref b3, .ref b4, .ref b5, .ref b6, .ref b7, .int 0, .int 0, .int 0, .int 0, .int 0, .int 0, .int (-1), .int (-1), .int 0, .int 0, .ref w0, .ref w1, .ref w2, .ref w3, .ref w4, .ref w5, .ref w6, .ref w7, .ref w8, .ref w9, .int 0, .int 0, .int 0, .ref w10, .ref w11, .int 0, .ref w12, .ref w13, .ref w14, .ref w15, .ref w16, .ref w17, .ref w18, .ref w19, .ref w20, .int 0, .ref w21, .ref w22, .int 0, .int 0, .int 0])), (b6, .inl (k.1, 900, .inl ft))] sz)) 0 0 (va_A [(m0, .inr (11, [.ref b1, .ref b2, .int 0, .long 0, .long 1, .ref b3, .ref b4, .ref b5, .ref b6, .ref b7, .int 0, .int 0, .int 0, .int 0, .int 0, .int 0, .int (-1), .int (-1), .int 0, .int 0, .ref w0, .ref w1, .ref w2, .ref w3, .ref w4, .ref w5, .ref w6, .ref w7, .ref w8, .ref w9, .int 0, .int 0, .int 0, .ref w10, .ref w11, .int 0, .ref w12, .ref w13, .ref w14, .ref w15, .ref w16, .ref w17, .ref w18, .ref w19, .ref w20, .int 0, .ref w21, .ref w22, .int 0, .int 0, .int 0])), (b6, .inl (k.1, 900, .inl ft))] sz) := by
  refine jy_met (cc := cX12_four) (maxL := 3) (ret := none) (lv := [(0, .ref m0), (1, .int y)]) (by decide) rfl (Nat.le_of_ble_eq_true rfl) rfl ?_
  intro p e s m below meth c F hr hlk hnm hN hA
  have hiX12 : ∀ w ∈ u_ws RX12 TX12 51, w ∈ ws_c_X12_four_0 := fun w hw => List.mem_cons_of_mem _ (List.mem_append_right _ hw)
  refine jy_bipush (pc' := 2) (v := 24) F dX12_four_0 (by decide) rfl ?_
  refine jy_istore_n (pc' := 3) (lv' := [(2, .int 24), (0, .ref m0), (1, .int y)]) F dX12_four_2 rfl (by decide) rfl rfl ?_
  refine jy_iload_n (pc' := 4) F 0 dX12_four_3 rfl rfl rfl ?_
  refine jy_if_lt (pc' := 7) (tgt := 36) F dX12_four_4 (by decide) rfl (fun h => absurd h (by decide)) (fun _ => ?_)
  refine jy_aload_n (pc' := 8) F 1 dX12_four_7 rfl rfl rfl ?_
  refine jy_get (pc' := 11) (C := RX12) (T := TX12) (N := 51) (ci := 11) (v := .ref b6) F hiX12 0 rfl rfl 8 (by decide) dX12_four_8 (List.mem_of_getElem? (i := 1) rfl) rfl rfl ?_
  refine jy_aload_n (pc' := 12) F 1 dX12_four_11 rfl rfl rfl ?_
  refine jy_get (pc' := 15) (C := RX12) (T := TX12) (N := 51) (ci := 11) (v := .int 0) F hiX12 0 rfl rfl 10 (by decide) dX12_four_12 (List.mem_of_getElem? (i := 2) rfl) rfl rfl ?_
  refine jy_iload_n (pc' := 16) F 2 dX12_four_15 rfl rfl rfl ?_
  refine jy_iload_n (pc' := 17) F 0 dX12_four_16 rfl rfl rfl ?_
  refine jy_ishr (pc' := 18) (v := (y >>> (24 &&& 31))) F dX12_four_17 rfl rfl ?_
  refine jy_i2b (pc' := 19) (v := (((y >>> (24 &&& 31))).toInt8.toInt32)) F dX12_four_18 rfl rfl ?_
  refine jy_bast (pc' := 20) (g := (upd ft 0 (vp_nar .byte (((y >>> (24 &&& 31))).toInt8.toInt32)))) (ws' := [(m0, .inr (11, [.ref b1, .ref b2, .int 0, .long 0, .long 1, .ref b3, .ref b4, .ref b5, .ref b6, .ref b7, .int 0, .int 0, .int 0, .int 0, .int 0, .int 0, .int (-1), .int (-1), .int 0, .int 0, .ref w0, .ref w1, .ref w2, .ref w3, .ref w4, .ref w5, .ref w6, .ref w7, .ref w8, .ref w9, .int 0, .int 0, .int 0, .ref w10, .ref w11, .int 0, .ref w12, .ref w13, .ref w14, .ref w15, .ref w16, .ref w17, .ref w18, .ref w19, .ref w20, .int 0, .ref w21, .ref w22, .int 0, .int 0, .int 0])), (b6, .inl (k.1, 900, .inl (upd ft 0 (vp_nar .byte (((y >>> (24 &&& 31))).toInt8.toInt32)))))]) F 1 0 rfl rfl dX12_four_19 (vp_in_nI (n := 0) (by omega) (by omega)) rfl rfl rfl ?_
  refine jy_aload_n (pc' := 21) F 1 dX12_four_20 rfl rfl rfl ?_
  refine jy_dup (pc' := 22) F dX12_four_21 rfl rfl ?_
  refine jy_get (pc' := 25) (C := RX12) (T := TX12) (N := 51) (ci := 11) (v := .int 0) F hiX12 0 rfl rfl 10 (by decide) dX12_four_22 (List.mem_of_getElem? (i := 2) rfl) rfl rfl ?_
  refine jy_iconst (pc' := 26) (v := 1) F dX12_four_25 (by decide) rfl ?_
  refine jy_iadd (pc' := 27) (v := 1) F dX12_four_26 (by decide) rfl ?_
  refine jy_put (pc' := 30) (C := RX12) (T := TX12) (N := 51) (ci := 11) (ws' := [(m0, .inr (11, [.ref b1, .ref b2, .int 0, .long 0, .long 1, .ref b3, .ref b4, .ref b5, .ref b6, .ref b7, .int 1, .int 0, .int 0, .int 0, .int 0, .int 0, .int (-1), .int (-1), .int 0, .int 0, .ref w0, .ref w1, .ref w2, .ref w3, .ref w4, .ref w5, .ref w6, .ref w7, .ref w8, .ref w9, .int 0, .int 0, .int 0, .ref w10, .ref w11, .int 0, .ref w12, .ref w13, .ref w14, .ref w15, .ref w16, .ref w17, .ref w18, .ref w19, .ref w20, .int 0, .ref w21, .ref w22, .int 0, .int 0, .int 0])), (b6, .inl (k.1, 900, .inl (upd ft 0 (vp_nar .byte (((y >>> (24 &&& 31))).toInt8.toInt32)))))]) F hiX12 tyX12 tyX12_ok nmX12 0 rfl rfl 10 (by decide) dX12_four_27 (List.mem_of_getElem? (i := 2) rfl) rfl rfl rfl rfl (Nat.le_of_ble_eq_true rfl) rfl rfl ?_
  refine jy_iinc (pc' := 33) (v := 16) (lv' := [(2, .int 16), (0, .ref m0), (1, .int y)]) F 0 dX12_four_30 rfl (by decide) (by decide) rfl rfl ?_
  refine jy_goto (tgt := 3) F dX12_four_33 (by decide) ?_
  refine jy_iload_n (pc' := 4) F 0 dX12_four_3 rfl rfl rfl ?_
  refine jy_if_lt (pc' := 7) (tgt := 36) F dX12_four_4 (by decide) rfl (fun h => absurd h (by decide)) (fun _ => ?_)
  refine jy_aload_n (pc' := 8) F 1 dX12_four_7 rfl rfl rfl ?_
  refine jy_get (pc' := 11) (C := RX12) (T := TX12) (N := 51) (ci := 11) (v := .ref b6) F hiX12 0 rfl rfl 8 (by decide) dX12_four_8 (List.mem_of_getElem? (i := 1) rfl) rfl rfl ?_
  refine jy_aload_n (pc' := 12) F 1 dX12_four_11 rfl rfl rfl ?_
  refine jy_get (pc' := 15) (C := RX12) (T := TX12) (N := 51) (ci := 11) (v := .int 1) F hiX12 0 rfl rfl 10 (by decide) dX12_four_12 (List.mem_of_getElem? (i := 2) rfl) rfl rfl ?_
  refine jy_iload_n (pc' := 16) F 2 dX12_four_15 rfl rfl rfl ?_
  refine jy_iload_n (pc' := 17) F 0 dX12_four_16 rfl rfl rfl ?_
  refine jy_ishr (pc' := 18) (v := (y >>> (16 &&& 31))) F dX12_four_17 rfl rfl ?_
  refine jy_i2b (pc' := 19) (v := (((y >>> (16 &&& 31))).toInt8.toInt32)) F dX12_four_18 rfl rfl ?_
  refine jy_bast (pc' := 20) (g := (upd (upd ft 0 (vp_nar .byte (((y >>> (24 &&& 31))).toInt8.toInt32))) 1 (vp_nar .byte (((y >>> (16 &&& 31))).toInt8.toInt32)))) (ws' := [(m0, .inr (11, [.ref b1, .ref b2, .int 0, .long 0, .long 1, .ref b3, .ref b4, .ref b5, .ref b6, .ref b7, .int 1, .int 0, .int 0, .int 0, .int 0, .int 0, .int (-1), .int (-1), .int 0, .int 0, .ref w0, .ref w1, .ref w2, .ref w3, .ref w4, .ref w5, .ref w6, .ref w7, .ref w8, .ref w9, .int 0, .int 0, .int 0, .ref w10, .ref w11, .int 0, .ref w12, .ref w13, .ref w14, .ref w15, .ref w16, .ref w17, .ref w18, .ref w19, .ref w20, .int 0, .ref w21, .ref w22, .int 0, .int 0, .int 0])), (b6, .inl (k.1, 900, .inl (upd (upd ft 0 (vp_nar .byte (((y >>> (24 &&& 31))).toInt8.toInt32))) 1 (vp_nar .byte (((y >>> (16 &&& 31))).toInt8.toInt32)))))]) F 1 0 rfl rfl dX12_four_19 (vp_in_nI (n := 1) (by omega) (by omega)) rfl rfl rfl ?_
  refine jy_aload_n (pc' := 21) F 1 dX12_four_20 rfl rfl rfl ?_
  refine jy_dup (pc' := 22) F dX12_four_21 rfl rfl ?_
  refine jy_get (pc' := 25) (C := RX12) (T := TX12) (N := 51) (ci := 11) (v := .int 1) F hiX12 0 rfl rfl 10 (by decide) dX12_four_22 (List.mem_of_getElem? (i := 2) rfl) rfl rfl ?_
  refine jy_iconst (pc' := 26) (v := 1) F dX12_four_25 (by decide) rfl ?_
  refine jy_iadd (pc' := 27) (v := 2) F dX12_four_26 (by decide) rfl ?_
  refine jy_put (pc' := 30) (C := RX12) (T := TX12) (N := 51) (ci := 11) (ws' := [(m0, .inr (11, [.ref b1, .ref b2, .int 0, .long 0, .long 1, .ref b3, .ref b4, .ref b5, .ref b6, .ref b7, .int 2, .int 0, .int 0, .int 0, .int 0, .int 0, .int (-1), .int (-1), .int 0, .int 0, .ref w0, .ref w1, .ref w2, .ref w3, .ref w4, .ref w5, .ref w6, .ref w7, .ref w8, .ref w9, .int 0, .int 0, .int 0, .ref w10, .ref w11, .int 0, .ref w12, .ref w13, .ref w14, .ref w15, .ref w16, .ref w17, .ref w18, .ref w19, .ref w20, .int 0, .ref w21, .ref w22, .int 0, .int 0, .int 0])), (b6, .inl (k.1, 900, .inl (upd (upd ft 0 (vp_nar .byte (((y >>> (24 &&& 31))).toInt8.toInt32))) 1 (vp_nar .byte (((y >>> (16 &&& 31))).toInt8.toInt32)))))]) F hiX12 tyX12 tyX12_ok nmX12 0 rfl rfl 10 (by decide) dX12_four_27 (List.mem_of_getElem? (i := 2) rfl) rfl rfl rfl rfl (Nat.le_of_ble_eq_true rfl) rfl rfl ?_
  refine jy_iinc (pc' := 33) (v := 8) (lv' := [(2, .int 8), (0, .ref m0), (1, .int y)]) F 0 dX12_four_30 rfl (by decide) (by decide) rfl rfl ?_
  refine jy_goto (tgt := 3) F dX12_four_33 (by decide) ?_
  refine jy_iload_n (pc' := 4) F 0 dX12_four_3 rfl rfl rfl ?_
  refine jy_if_lt (pc' := 7) (tgt := 36) F dX12_four_4 (by decide) rfl (fun h => absurd h (by decide)) (fun _ => ?_)
  refine jy_aload_n (pc' := 8) F 1 dX12_four_7 rfl rfl rfl ?_
  refine jy_get (pc' := 11) (C := RX12) (T := TX12) (N := 51) (ci := 11) (v := .ref b6) F hiX12 0 rfl rfl 8 (by decide) dX12_four_8 (List.mem_of_getElem? (i := 1) rfl) rfl rfl ?_
  refine jy_aload_n (pc' := 12) F 1 dX12_four_11 rfl rfl rfl ?_
  refine jy_get (pc' := 15) (C := RX12) (T := TX12) (N := 51) (ci := 11) (v := .int 2) F hiX12 0 rfl rfl 10 (by decide) dX12_four_12 (List.mem_of_getElem? (i := 2) rfl) rfl rfl ?_
  refine jy_iload_n (pc' := 16) F 2 dX12_four_15 rfl rfl rfl ?_
  refine jy_iload_n (pc' := 17) F 0 dX12_four_16 rfl rfl rfl ?_
  refine jy_ishr (pc' := 18) (v := (y >>> (8 &&& 31))) F dX12_four_17 rfl rfl ?_
  refine jy_i2b (pc' := 19) (v := (((y >>> (8 &&& 31))).toInt8.toInt32)) F dX12_four_18 rfl rfl ?_
  refine jy_bast (pc' := 20) (g := (upd (upd (upd ft 0 (vp_nar .byte (((y >>> (24 &&& 31))).toInt8.toInt32))) 1 (vp_nar .byte (((y >>> (16 &&& 31))).toInt8.toInt32))) 2 (vp_nar .byte (((y >>> (8 &&& 31))).toInt8.toInt32)))) (ws' := [(m0, .inr (11, [.ref b1, .ref b2, .int 0, .long 0, .long 1, .ref b3, .ref b4, .ref b5, .ref b6, .ref b7, .int 2, .int 0, .int 0, .int 0, .int 0, .int 0, .int (-1), .int (-1), .int 0, .int 0, .ref w0, .ref w1, .ref w2, .ref w3, .ref w4, .ref w5, .ref w6, .ref w7, .ref w8, .ref w9, .int 0, .int 0, .int 0, .ref w10, .ref w11, .int 0, .ref w12, .ref w13, .ref w14, .ref w15, .ref w16, .ref w17, .ref w18, .ref w19, .ref w20, .int 0, .ref w21, .ref w22, .int 0, .int 0, .int 0])), (b6, .inl (k.1, 900, .inl (upd (upd (upd ft 0 (vp_nar .byte (((y >>> (24 &&& 31))).toInt8.toInt32))) 1 (vp_nar .byte (((y >>> (16 &&& 31))).toInt8.toInt32))) 2 (vp_nar .byte (((y >>> (8 &&& 31))).toInt8.toInt32)))))]) F 1 0 rfl rfl dX12_four_19 (vp_in_nI (n := 2) (by omega) (by omega)) rfl rfl rfl ?_
  refine jy_aload_n (pc' := 21) F 1 dX12_four_20 rfl rfl rfl ?_
  refine jy_dup (pc' := 22) F dX12_four_21 rfl rfl ?_
  refine jy_get (pc' := 25) (C := RX12) (T := TX12) (N := 51) (ci := 11) (v := .int 2) F hiX12 0 rfl rfl 10 (by decide) dX12_four_22 (List.mem_of_getElem? (i := 2) rfl) rfl rfl ?_
  refine jy_iconst (pc' := 26) (v := 1) F dX12_four_25 (by decide) rfl ?_
  refine jy_iadd (pc' := 27) (v := 3) F dX12_four_26 (by decide) rfl ?_
  refine jy_put (pc' := 30) (C := RX12) (T := TX12) (N := 51) (ci := 11) (ws' := [(m0, .inr (11, [.ref b1, .ref b2, .int 0, .long 0, .long 1, .ref b3, .ref b4, .ref b5, .ref b6, .ref b7, .int 3, .int 0, .int 0, .int 0, .int 0, .int 0, .int (-1), .int (-1), .int 0, .int 0, .ref w0, .ref w1, .ref w2, .ref w3, .ref w4, .ref w5, .ref w6, .ref w7, .ref w8, .ref w9, .int 0, .int 0, .int 0, .ref w10, .ref w11, .int 0, .ref w12, .ref w13, .ref w14, .ref w15, .ref w16, .ref w17, .ref w18, .ref w19, .ref w20, .int 0, .ref w21, .ref w22, .int 0, .int 0, .int 0])), (b6, .inl (k.1, 900, .inl (upd (upd (upd ft 0 (vp_nar .byte (((y >>> (24 &&& 31))).toInt8.toInt32))) 1 (vp_nar .byte (((y >>> (16 &&& 31))).toInt8.toInt32))) 2 (vp_nar .byte (((y >>> (8 &&& 31))).toInt8.toInt32)))))]) F hiX12 tyX12 tyX12_ok nmX12 0 rfl rfl 10 (by decide) dX12_four_27 (List.mem_of_getElem? (i := 2) rfl) rfl rfl rfl rfl (Nat.le_of_ble_eq_true rfl) rfl rfl ?_
  refine jy_iinc (pc' := 33) (v := 0) (lv' := [(2, .int 0), (0, .ref m0), (1, .int y)]) F 0 dX12_four_30 rfl (by decide) (by decide) rfl rfl ?_
  refine jy_goto (tgt := 3) F dX12_four_33 (by decide) ?_
  refine jy_iload_n (pc' := 4) F 0 dX12_four_3 rfl rfl rfl ?_
  refine jy_if_lt (pc' := 7) (tgt := 36) F dX12_four_4 (by decide) rfl (fun h => absurd h (by decide)) (fun _ => ?_)
  refine jy_aload_n (pc' := 8) F 1 dX12_four_7 rfl rfl rfl ?_
  refine jy_get (pc' := 11) (C := RX12) (T := TX12) (N := 51) (ci := 11) (v := .ref b6) F hiX12 0 rfl rfl 8 (by decide) dX12_four_8 (List.mem_of_getElem? (i := 1) rfl) rfl rfl ?_
  refine jy_aload_n (pc' := 12) F 1 dX12_four_11 rfl rfl rfl ?_
  refine jy_get (pc' := 15) (C := RX12) (T := TX12) (N := 51) (ci := 11) (v := .int 3) F hiX12 0 rfl rfl 10 (by decide) dX12_four_12 (List.mem_of_getElem? (i := 2) rfl) rfl rfl ?_
  refine jy_iload_n (pc' := 16) F 2 dX12_four_15 rfl rfl rfl ?_
  refine jy_iload_n (pc' := 17) F 0 dX12_four_16 rfl rfl rfl ?_
  refine jy_ishr (pc' := 18) (v := (y >>> (0 &&& 31))) F dX12_four_17 rfl rfl ?_
  refine jy_i2b (pc' := 19) (v := (((y >>> (0 &&& 31))).toInt8.toInt32)) F dX12_four_18 rfl rfl ?_
  refine jy_bast (pc' := 20) (g := (upd (upd (upd (upd ft 0 (vp_nar .byte (((y >>> (24 &&& 31))).toInt8.toInt32))) 1 (vp_nar .byte (((y >>> (16 &&& 31))).toInt8.toInt32))) 2 (vp_nar .byte (((y >>> (8 &&& 31))).toInt8.toInt32))) 3 (vp_nar .byte (((y >>> (0 &&& 31))).toInt8.toInt32)))) (ws' := [(m0, .inr (11, [.ref b1, .ref b2, .int 0, .long 0, .long 1, .ref b3, .ref b4, .ref b5, .ref b6, .ref b7, .int 3, .int 0, .int 0, .int 0, .int 0, .int 0, .int (-1), .int (-1), .int 0, .int 0, .ref w0, .ref w1, .ref w2, .ref w3, .ref w4, .ref w5, .ref w6, .ref w7, .ref w8, .ref w9, .int 0, .int 0, .int 0, .ref w10, .ref w11, .int 0, .ref w12, .ref w13, .ref w14, .ref w15, .ref w16, .ref w17, .ref w18, .ref w19, .ref w20, .int 0, .ref w21, .ref w22, .int 0, .int 0, .int 0])), (b6, .inl (k.1, 900, .inl (upd (upd (upd (upd ft 0 (vp_nar .byte (((y >>> (24 &&& 31))).toInt8.toInt32))) 1 (vp_nar .byte (((y >>> (16 &&& 31))).toInt8.toInt32))) 2 (vp_nar .byte (((y >>> (8 &&& 31))).toInt8.toInt32))) 3 (vp_nar .byte (((y >>> (0 &&& 31))).toInt8.toInt32)))))]) F 1 0 rfl rfl dX12_four_19 (vp_in_nI (n := 3) (by omega) (by omega)) rfl rfl rfl ?_
  refine jy_aload_n (pc' := 21) F 1 dX12_four_20 rfl rfl rfl ?_
  refine jy_dup (pc' := 22) F dX12_four_21 rfl rfl ?_
  refine jy_get (pc' := 25) (C := RX12) (T := TX12) (N := 51) (ci := 11) (v := .int 3) F hiX12 0 rfl rfl 10 (by decide) dX12_four_22 (List.mem_of_getElem? (i := 2) rfl) rfl rfl ?_
  refine jy_iconst (pc' := 26) (v := 1) F dX12_four_25 (by decide) rfl ?_
  refine jy_iadd (pc' := 27) (v := 4) F dX12_four_26 (by decide) rfl ?_
  refine jy_put (pc' := 30) (C := RX12) (T := TX12) (N := 51) (ci := 11) (ws' := [(m0, .inr (11, [.ref b1, .ref b2, .int 0, .long 0, .long 1, .ref b3, .ref b4, .ref b5, .ref b6, .ref b7, .int 4, .int 0, .int 0, .int 0, .int 0, .int 0, .int (-1), .int (-1), .int 0, .int 0, .ref w0, .ref w1, .ref w2, .ref w3, .ref w4, .ref w5, .ref w6, .ref w7, .ref w8, .ref w9, .int 0, .int 0, .int 0, .ref w10, .ref w11, .int 0, .ref w12, .ref w13, .ref w14, .ref w15, .ref w16, .ref w17, .ref w18, .ref w19, .ref w20, .int 0, .ref w21, .ref w22, .int 0, .int 0, .int 0])), (b6, .inl (k.1, 900, .inl (upd (upd (upd (upd ft 0 (vp_nar .byte (((y >>> (24 &&& 31))).toInt8.toInt32))) 1 (vp_nar .byte (((y >>> (16 &&& 31))).toInt8.toInt32))) 2 (vp_nar .byte (((y >>> (8 &&& 31))).toInt8.toInt32))) 3 (vp_nar .byte (((y >>> (0 &&& 31))).toInt8.toInt32)))))]) F hiX12 tyX12 tyX12_ok nmX12 0 rfl rfl 10 (by decide) dX12_four_27 (List.mem_of_getElem? (i := 2) rfl) rfl rfl rfl rfl (Nat.le_of_ble_eq_true rfl) rfl rfl ?_
  refine jy_iinc (pc' := 33) (v := (-8)) (lv' := [(2, .int (-8)), (0, .ref m0), (1, .int y)]) F 0 dX12_four_30 rfl (by decide) (by decide) rfl rfl ?_
  refine jy_goto (tgt := 3) F dX12_four_33 (by decide) ?_
  refine jy_iload_n (pc' := 4) F 0 dX12_four_3 rfl rfl rfl ?_
  refine jy_if_lt (pc' := 7) (tgt := 36) F dX12_four_4 (by decide) rfl (fun _ => ?_) (fun h => absurd h (by decide))
  refine jy_widen (cells' := 0) (slots' := 0) (by decide) (by decide) ?_
  exact jy_vret F hr hlk ((upd (upd (upd (upd ft 0 (vp_nar .byte (((y >>> (24 &&& 31))).toInt8.toInt32))) 1 (vp_nar .byte (((y >>> (16 &&& 31))).toInt8.toInt32))) 2 (vp_nar .byte (((y >>> (8 &&& 31))).toInt8.toInt32))) 3 (vp_nar .byte (((y >>> (0 &&& 31))).toInt8.toInt32)))) (trivial) [0, 1] rfl (by decide) dX12_four_36
def ws_c_X12_four_4 : List Cond := .code yX12_four cX12_four 3 none :: ([.fieldLink "NestedCheckerModel" 30 "NestedCheckerModel" "tape" "[B", .fieldLink "NestedCheckerModel" 147 "NestedCheckerModel" "taped" "I"] ++ wsX120)
set_option maxHeartbeats 4000000 in
set_option maxRecDepth 100000 in
theorem c_X12_four_4 (l : Launch) (D : va_G) (k : jK) (m0 : Nat) (b1 : Nat) (b2 : Nat) (b3 : Nat) (b4 : Nat) (b5 : Nat) (b6 : Nat) (b7 : Nat) (w0 : Nat) (w1 : Nat) (w2 : Nat) (w3 : Nat) (w4 : Nat) (w5 : Nat) (w6 : Nat) (w7 : Nat) (w8 : Nat) (w9 : Nat) (w10 : Nat) (w11 : Nat) (w12 : Nat) (w13 : Nat) (w14 : Nat) (w15 : Nat) (w16 : Nat) (w17 : Nat) (w18 : Nat) (w19 : Nat) (w20 : Nat) (w21 : Nat) (w22 : Nat) (ft : Nat → Int32) (y : Int32) (sz : Nat)  : Met l yX12_four ws_c_X12_four_4 ({ frames := 0, cells := 0, slots := 0, locals := 0 }) (jy_P [.ref m0, .int y] D vwCl (jT k) jW [(m0, .inr (11, [.ref b1, .ref b2, .int 0, .long 0, .long 1, .ref b3, .ref b4, .ref b5, .ref b6, .ref b7, .int 4, .int 0, .int 0, .int 0, .int 0, .int 0, .int (-1), .int (-1), .int 0, .int 0, .ref w0, .ref w1, .ref w2, .ref w3, .ref w4, .ref w5, .ref w6, .ref w7, .ref w8, .ref w9, .int 0, .int 0, .int 0, .ref w10, .ref w11, .int 0, .ref w12, .ref w13, .ref w14, .ref w15, .ref w16, .ref w17, .ref w18, .ref w19, .ref w20, .int 0, .ref w21, .ref w22, .int 0, .int 0, .int 0])), (b6, .inl (k.1, 900, .inl ft))] sz) (va_Qv (fun (u : (Nat → Int32)) => True) (jy_B D vwCl (va_A [(m0, .inr (11, [.ref b1, .ref b2, .int 0, .long 0, .long 1, .ref b3, .ref b4, .ref b5, .ref b6, .ref b7, .int 4, .int 0, .int 0, .int 0, .int 0, .int 0, .int (-1), .int (-1), .int 0, .int 0, .ref w0, .ref w1, .ref w2, .ref w3, .ref w4, .ref w5, .ref w6, .ref w7, .ref w8, .ref w9, .int 0, .int 0, .int 0, .ref w10, .ref w11, .int 0, .ref w12, .ref w13, .ref w14, .ref w15, .ref w16, .ref w17, .ref w18, .ref w19, .ref w20, .int 0, .ref w21, .ref w22, .int 0, .int 0, .int 0])), (b6, .inl (k.1, 900, .inl ft))] sz) (fun (u : (Nat → Int32)) => [(m0, .inr (11, [.ref b1, .ref b2, .int 0, .long 0, .long 1, .ref b3, .ref b4, .ref b5, .ref b6, .ref b7, .int 8, .int 0, .int 0, .int 0, .int 0, .int 0, .int (-1), .int (-1), .int 0, .int 0, .ref w0, .ref w1, .ref w2, .ref w3, .ref w4, .ref w5, .ref w6, .ref w7, .ref w8, .ref w9, .int 0, .int 0, .int 0, .ref w10, .ref w11, .int 0, .ref w12, .ref w13, .ref w14, .ref w15, .ref w16, .ref w17, .ref w18, .ref w19, .ref w20, .int 0, .ref w21, .ref w22, .int 0, .int 0, .int 0])), (b6, .inl (k.1, 900, .inl u))])) (va_A [(m0, .inr (11, [.ref b1, .ref b2, .int 0, .long 0, .long 1, .ref b3, .ref b4, .ref b5, .ref b6, .ref b7, .int 4, .int 0, .int 0, .int 0, .int 0, .int 0, .int (-1), .int (-1), .int 0, .int 0, .ref w0, .ref w1, .ref w2, .ref w3, .ref w4, .ref w5, .ref w6, .ref w7, .ref w8, .ref w9, .int 0, .int 0, .int 0, .ref w10, .ref w11, .int 0, .ref w12, .ref w13, .ref w14, .ref w15, .ref w16, .ref w17, .ref w18, .ref w19, .ref w20, .int 0, .ref w21, .ref w22, .int 0, .int 0, .int 0])), (b6, .inl (k.1, 900, .inl ft))] sz)) 0 0 (va_A [(m0, .inr (11, [.ref b1, .ref b2, .int 0, .long 0, .long 1, .ref b3, .ref b4, .ref b5, .ref b6, .ref b7, .int 4, .int 0, .int 0, .int 0, .int 0, .int 0, .int (-1), .int (-1), .int 0, .int 0, .ref w0, .ref w1, .ref w2, .ref w3, .ref w4, .ref w5, .ref w6, .ref w7, .ref w8, .ref w9, .int 0, .int 0, .int 0, .ref w10, .ref w11, .int 0, .ref w12, .ref w13, .ref w14, .ref w15, .ref w16, .ref w17, .ref w18, .ref w19, .ref w20, .int 0, .ref w21, .ref w22, .int 0, .int 0, .int 0])), (b6, .inl (k.1, 900, .inl ft))] sz) := by
  refine jy_met (cc := cX12_four) (maxL := 3) (ret := none) (lv := [(0, .ref m0), (1, .int y)]) (by decide) rfl (Nat.le_of_ble_eq_true rfl) rfl ?_
  intro p e s m below meth c F hr hlk hnm hN hA
  have hiX12 : ∀ w ∈ u_ws RX12 TX12 51, w ∈ ws_c_X12_four_4 := fun w hw => List.mem_cons_of_mem _ (List.mem_append_right _ hw)
  refine jy_bipush (pc' := 2) (v := 24) F dX12_four_0 (by decide) rfl ?_
  refine jy_istore_n (pc' := 3) (lv' := [(2, .int 24), (0, .ref m0), (1, .int y)]) F dX12_four_2 rfl (by decide) rfl rfl ?_
  refine jy_iload_n (pc' := 4) F 0 dX12_four_3 rfl rfl rfl ?_
  refine jy_if_lt (pc' := 7) (tgt := 36) F dX12_four_4 (by decide) rfl (fun h => absurd h (by decide)) (fun _ => ?_)
  refine jy_aload_n (pc' := 8) F 1 dX12_four_7 rfl rfl rfl ?_
  refine jy_get (pc' := 11) (C := RX12) (T := TX12) (N := 51) (ci := 11) (v := .ref b6) F hiX12 0 rfl rfl 8 (by decide) dX12_four_8 (List.mem_of_getElem? (i := 1) rfl) rfl rfl ?_
  refine jy_aload_n (pc' := 12) F 1 dX12_four_11 rfl rfl rfl ?_
  refine jy_get (pc' := 15) (C := RX12) (T := TX12) (N := 51) (ci := 11) (v := .int 4) F hiX12 0 rfl rfl 10 (by decide) dX12_four_12 (List.mem_of_getElem? (i := 2) rfl) rfl rfl ?_
  refine jy_iload_n (pc' := 16) F 2 dX12_four_15 rfl rfl rfl ?_
  refine jy_iload_n (pc' := 17) F 0 dX12_four_16 rfl rfl rfl ?_
  refine jy_ishr (pc' := 18) (v := (y >>> (24 &&& 31))) F dX12_four_17 rfl rfl ?_
  refine jy_i2b (pc' := 19) (v := (((y >>> (24 &&& 31))).toInt8.toInt32)) F dX12_four_18 rfl rfl ?_
  refine jy_bast (pc' := 20) (g := (upd ft 4 (vp_nar .byte (((y >>> (24 &&& 31))).toInt8.toInt32)))) (ws' := [(m0, .inr (11, [.ref b1, .ref b2, .int 0, .long 0, .long 1, .ref b3, .ref b4, .ref b5, .ref b6, .ref b7, .int 4, .int 0, .int 0, .int 0, .int 0, .int 0, .int (-1), .int (-1), .int 0, .int 0, .ref w0, .ref w1, .ref w2, .ref w3, .ref w4, .ref w5, .ref w6, .ref w7, .ref w8, .ref w9, .int 0, .int 0, .int 0, .ref w10, .ref w11, .int 0, .ref w12, .ref w13, .ref w14, .ref w15, .ref w16, .ref w17, .ref w18, .ref w19, .ref w20, .int 0, .ref w21, .ref w22, .int 0, .int 0, .int 0])), (b6, .inl (k.1, 900, .inl (upd ft 4 (vp_nar .byte (((y >>> (24 &&& 31))).toInt8.toInt32)))))]) F 1 0 rfl rfl dX12_four_19 (vp_in_nI (n := 4) (by omega) (by omega)) rfl rfl rfl ?_
  refine jy_aload_n (pc' := 21) F 1 dX12_four_20 rfl rfl rfl ?_
  refine jy_dup (pc' := 22) F dX12_four_21 rfl rfl ?_
  refine jy_get (pc' := 25) (C := RX12) (T := TX12) (N := 51) (ci := 11) (v := .int 4) F hiX12 0 rfl rfl 10 (by decide) dX12_four_22 (List.mem_of_getElem? (i := 2) rfl) rfl rfl ?_
  refine jy_iconst (pc' := 26) (v := 1) F dX12_four_25 (by decide) rfl ?_
  refine jy_iadd (pc' := 27) (v := 5) F dX12_four_26 (by decide) rfl ?_
  refine jy_put (pc' := 30) (C := RX12) (T := TX12) (N := 51) (ci := 11) (ws' := [(m0, .inr (11, [.ref b1, .ref b2, .int 0, .long 0, .long 1, .ref b3, .ref b4, .ref b5, .ref b6, .ref b7, .int 5, .int 0, .int 0, .int 0, .int 0, .int 0, .int (-1), .int (-1), .int 0, .int 0, .ref w0, .ref w1, .ref w2, .ref w3, .ref w4, .ref w5, .ref w6, .ref w7, .ref w8, .ref w9, .int 0, .int 0, .int 0, .ref w10, .ref w11, .int 0, .ref w12, .ref w13, .ref w14, .ref w15, .ref w16, .ref w17, .ref w18, .ref w19, .ref w20, .int 0, .ref w21, .ref w22, .int 0, .int 0, .int 0])), (b6, .inl (k.1, 900, .inl (upd ft 4 (vp_nar .byte (((y >>> (24 &&& 31))).toInt8.toInt32)))))]) F hiX12 tyX12 tyX12_ok nmX12 0 rfl rfl 10 (by decide) dX12_four_27 (List.mem_of_getElem? (i := 2) rfl) rfl rfl rfl rfl (Nat.le_of_ble_eq_true rfl) rfl rfl ?_
  refine jy_iinc (pc' := 33) (v := 16) (lv' := [(2, .int 16), (0, .ref m0), (1, .int y)]) F 0 dX12_four_30 rfl (by decide) (by decide) rfl rfl ?_
  refine jy_goto (tgt := 3) F dX12_four_33 (by decide) ?_
  refine jy_iload_n (pc' := 4) F 0 dX12_four_3 rfl rfl rfl ?_
  refine jy_if_lt (pc' := 7) (tgt := 36) F dX12_four_4 (by decide) rfl (fun h => absurd h (by decide)) (fun _ => ?_)
  refine jy_aload_n (pc' := 8) F 1 dX12_four_7 rfl rfl rfl ?_
  refine jy_get (pc' := 11) (C := RX12) (T := TX12) (N := 51) (ci := 11) (v := .ref b6) F hiX12 0 rfl rfl 8 (by decide) dX12_four_8 (List.mem_of_getElem? (i := 1) rfl) rfl rfl ?_
  refine jy_aload_n (pc' := 12) F 1 dX12_four_11 rfl rfl rfl ?_
  refine jy_get (pc' := 15) (C := RX12) (T := TX12) (N := 51) (ci := 11) (v := .int 5) F hiX12 0 rfl rfl 10 (by decide) dX12_four_12 (List.mem_of_getElem? (i := 2) rfl) rfl rfl ?_
  refine jy_iload_n (pc' := 16) F 2 dX12_four_15 rfl rfl rfl ?_
  refine jy_iload_n (pc' := 17) F 0 dX12_four_16 rfl rfl rfl ?_
  refine jy_ishr (pc' := 18) (v := (y >>> (16 &&& 31))) F dX12_four_17 rfl rfl ?_
  refine jy_i2b (pc' := 19) (v := (((y >>> (16 &&& 31))).toInt8.toInt32)) F dX12_four_18 rfl rfl ?_
  refine jy_bast (pc' := 20) (g := (upd (upd ft 4 (vp_nar .byte (((y >>> (24 &&& 31))).toInt8.toInt32))) 5 (vp_nar .byte (((y >>> (16 &&& 31))).toInt8.toInt32)))) (ws' := [(m0, .inr (11, [.ref b1, .ref b2, .int 0, .long 0, .long 1, .ref b3, .ref b4, .ref b5, .ref b6, .ref b7, .int 5, .int 0, .int 0, .int 0, .int 0, .int 0, .int (-1), .int (-1), .int 0, .int 0, .ref w0, .ref w1, .ref w2, .ref w3, .ref w4, .ref w5, .ref w6, .ref w7, .ref w8, .ref w9, .int 0, .int 0, .int 0, .ref w10, .ref w11, .int 0, .ref w12, .ref w13, .ref w14, .ref w15, .ref w16, .ref w17, .ref w18, .ref w19, .ref w20, .int 0, .ref w21, .ref w22, .int 0, .int 0, .int 0])), (b6, .inl (k.1, 900, .inl (upd (upd ft 4 (vp_nar .byte (((y >>> (24 &&& 31))).toInt8.toInt32))) 5 (vp_nar .byte (((y >>> (16 &&& 31))).toInt8.toInt32)))))]) F 1 0 rfl rfl dX12_four_19 (vp_in_nI (n := 5) (by omega) (by omega)) rfl rfl rfl ?_
  refine jy_aload_n (pc' := 21) F 1 dX12_four_20 rfl rfl rfl ?_
  refine jy_dup (pc' := 22) F dX12_four_21 rfl rfl ?_
  refine jy_get (pc' := 25) (C := RX12) (T := TX12) (N := 51) (ci := 11) (v := .int 5) F hiX12 0 rfl rfl 10 (by decide) dX12_four_22 (List.mem_of_getElem? (i := 2) rfl) rfl rfl ?_
  refine jy_iconst (pc' := 26) (v := 1) F dX12_four_25 (by decide) rfl ?_
  refine jy_iadd (pc' := 27) (v := 6) F dX12_four_26 (by decide) rfl ?_
  refine jy_put (pc' := 30) (C := RX12) (T := TX12) (N := 51) (ci := 11) (ws' := [(m0, .inr (11, [.ref b1, .ref b2, .int 0, .long 0, .long 1, .ref b3, .ref b4, .ref b5, .ref b6, .ref b7, .int 6, .int 0, .int 0, .int 0, .int 0, .int 0, .int (-1), .int (-1), .int 0, .int 0, .ref w0, .ref w1, .ref w2, .ref w3, .ref w4, .ref w5, .ref w6, .ref w7, .ref w8, .ref w9, .int 0, .int 0, .int 0, .ref w10, .ref w11, .int 0, .ref w12, .ref w13, .ref w14, .ref w15, .ref w16, .ref w17, .ref w18, .ref w19, .ref w20, .int 0, .ref w21, .ref w22, .int 0, .int 0, .int 0])), (b6, .inl (k.1, 900, .inl (upd (upd ft 4 (vp_nar .byte (((y >>> (24 &&& 31))).toInt8.toInt32))) 5 (vp_nar .byte (((y >>> (16 &&& 31))).toInt8.toInt32)))))]) F hiX12 tyX12 tyX12_ok nmX12 0 rfl rfl 10 (by decide) dX12_four_27 (List.mem_of_getElem? (i := 2) rfl) rfl rfl rfl rfl (Nat.le_of_ble_eq_true rfl) rfl rfl ?_
  refine jy_iinc (pc' := 33) (v := 8) (lv' := [(2, .int 8), (0, .ref m0), (1, .int y)]) F 0 dX12_four_30 rfl (by decide) (by decide) rfl rfl ?_
  refine jy_goto (tgt := 3) F dX12_four_33 (by decide) ?_
  refine jy_iload_n (pc' := 4) F 0 dX12_four_3 rfl rfl rfl ?_
  refine jy_if_lt (pc' := 7) (tgt := 36) F dX12_four_4 (by decide) rfl (fun h => absurd h (by decide)) (fun _ => ?_)
  refine jy_aload_n (pc' := 8) F 1 dX12_four_7 rfl rfl rfl ?_
  refine jy_get (pc' := 11) (C := RX12) (T := TX12) (N := 51) (ci := 11) (v := .ref b6) F hiX12 0 rfl rfl 8 (by decide) dX12_four_8 (List.mem_of_getElem? (i := 1) rfl) rfl rfl ?_
  refine jy_aload_n (pc' := 12) F 1 dX12_four_11 rfl rfl rfl ?_
  refine jy_get (pc' := 15) (C := RX12) (T := TX12) (N := 51) (ci := 11) (v := .int 6) F hiX12 0 rfl rfl 10 (by decide) dX12_four_12 (List.mem_of_getElem? (i := 2) rfl) rfl rfl ?_
  refine jy_iload_n (pc' := 16) F 2 dX12_four_15 rfl rfl rfl ?_
  refine jy_iload_n (pc' := 17) F 0 dX12_four_16 rfl rfl rfl ?_
  refine jy_ishr (pc' := 18) (v := (y >>> (8 &&& 31))) F dX12_four_17 rfl rfl ?_
  refine jy_i2b (pc' := 19) (v := (((y >>> (8 &&& 31))).toInt8.toInt32)) F dX12_four_18 rfl rfl ?_
  refine jy_bast (pc' := 20) (g := (upd (upd (upd ft 4 (vp_nar .byte (((y >>> (24 &&& 31))).toInt8.toInt32))) 5 (vp_nar .byte (((y >>> (16 &&& 31))).toInt8.toInt32))) 6 (vp_nar .byte (((y >>> (8 &&& 31))).toInt8.toInt32)))) (ws' := [(m0, .inr (11, [.ref b1, .ref b2, .int 0, .long 0, .long 1, .ref b3, .ref b4, .ref b5, .ref b6, .ref b7, .int 6, .int 0, .int 0, .int 0, .int 0, .int 0, .int (-1), .int (-1), .int 0, .int 0, .ref w0, .ref w1, .ref w2, .ref w3, .ref w4, .ref w5, .ref w6, .ref w7, .ref w8, .ref w9, .int 0, .int 0, .int 0, .ref w10, .ref w11, .int 0, .ref w12, .ref w13, .ref w14, .ref w15, .ref w16, .ref w17, .ref w18, .ref w19, .ref w20, .int 0, .ref w21, .ref w22, .int 0, .int 0, .int 0])), (b6, .inl (k.1, 900, .inl (upd (upd (upd ft 4 (vp_nar .byte (((y >>> (24 &&& 31))).toInt8.toInt32))) 5 (vp_nar .byte (((y >>> (16 &&& 31))).toInt8.toInt32))) 6 (vp_nar .byte (((y >>> (8 &&& 31))).toInt8.toInt32)))))]) F 1 0 rfl rfl dX12_four_19 (vp_in_nI (n := 6) (by omega) (by omega)) rfl rfl rfl ?_
  refine jy_aload_n (pc' := 21) F 1 dX12_four_20 rfl rfl rfl ?_
  refine jy_dup (pc' := 22) F dX12_four_21 rfl rfl ?_
  refine jy_get (pc' := 25) (C := RX12) (T := TX12) (N := 51) (ci := 11) (v := .int 6) F hiX12 0 rfl rfl 10 (by decide) dX12_four_22 (List.mem_of_getElem? (i := 2) rfl) rfl rfl ?_
  refine jy_iconst (pc' := 26) (v := 1) F dX12_four_25 (by decide) rfl ?_
  refine jy_iadd (pc' := 27) (v := 7) F dX12_four_26 (by decide) rfl ?_
  refine jy_put (pc' := 30) (C := RX12) (T := TX12) (N := 51) (ci := 11) (ws' := [(m0, .inr (11, [.ref b1, .ref b2, .int 0, .long 0, .long 1, .ref b3, .ref b4, .ref b5, .ref b6, .ref b7, .int 7, .int 0, .int 0, .int 0, .int 0, .int 0, .int (-1), .int (-1), .int 0, .int 0, .ref w0, .ref w1, .ref w2, .ref w3, .ref w4, .ref w5, .ref w6, .ref w7, .ref w8, .ref w9, .int 0, .int 0, .int 0, .ref w10, .ref w11, .int 0, .ref w12, .ref w13, .ref w14, .ref w15, .ref w16, .ref w17, .ref w18, .ref w19, .ref w20, .int 0, .ref w21, .ref w22, .int 0, .int 0, .int 0])), (b6, .inl (k.1, 900, .inl (upd (upd (upd ft 4 (vp_nar .byte (((y >>> (24 &&& 31))).toInt8.toInt32))) 5 (vp_nar .byte (((y >>> (16 &&& 31))).toInt8.toInt32))) 6 (vp_nar .byte (((y >>> (8 &&& 31))).toInt8.toInt32)))))]) F hiX12 tyX12 tyX12_ok nmX12 0 rfl rfl 10 (by decide) dX12_four_27 (List.mem_of_getElem? (i := 2) rfl) rfl rfl rfl rfl (Nat.le_of_ble_eq_true rfl) rfl rfl ?_
  refine jy_iinc (pc' := 33) (v := 0) (lv' := [(2, .int 0), (0, .ref m0), (1, .int y)]) F 0 dX12_four_30 rfl (by decide) (by decide) rfl rfl ?_
  refine jy_goto (tgt := 3) F dX12_four_33 (by decide) ?_
  refine jy_iload_n (pc' := 4) F 0 dX12_four_3 rfl rfl rfl ?_
  refine jy_if_lt (pc' := 7) (tgt := 36) F dX12_four_4 (by decide) rfl (fun h => absurd h (by decide)) (fun _ => ?_)
  refine jy_aload_n (pc' := 8) F 1 dX12_four_7 rfl rfl rfl ?_
  refine jy_get (pc' := 11) (C := RX12) (T := TX12) (N := 51) (ci := 11) (v := .ref b6) F hiX12 0 rfl rfl 8 (by decide) dX12_four_8 (List.mem_of_getElem? (i := 1) rfl) rfl rfl ?_
  refine jy_aload_n (pc' := 12) F 1 dX12_four_11 rfl rfl rfl ?_
  refine jy_get (pc' := 15) (C := RX12) (T := TX12) (N := 51) (ci := 11) (v := .int 7) F hiX12 0 rfl rfl 10 (by decide) dX12_four_12 (List.mem_of_getElem? (i := 2) rfl) rfl rfl ?_
  refine jy_iload_n (pc' := 16) F 2 dX12_four_15 rfl rfl rfl ?_
  refine jy_iload_n (pc' := 17) F 0 dX12_four_16 rfl rfl rfl ?_
  refine jy_ishr (pc' := 18) (v := (y >>> (0 &&& 31))) F dX12_four_17 rfl rfl ?_
  refine jy_i2b (pc' := 19) (v := (((y >>> (0 &&& 31))).toInt8.toInt32)) F dX12_four_18 rfl rfl ?_
  refine jy_bast (pc' := 20) (g := (upd (upd (upd (upd ft 4 (vp_nar .byte (((y >>> (24 &&& 31))).toInt8.toInt32))) 5 (vp_nar .byte (((y >>> (16 &&& 31))).toInt8.toInt32))) 6 (vp_nar .byte (((y >>> (8 &&& 31))).toInt8.toInt32))) 7 (vp_nar .byte (((y >>> (0 &&& 31))).toInt8.toInt32)))) (ws' := [(m0, .inr (11, [.ref b1, .ref b2, .int 0, .long 0, .long 1, .ref b3, .ref b4, .ref b5, .ref b6, .ref b7, .int 7, .int 0, .int 0, .int 0, .int 0, .int 0, .int (-1), .int (-1), .int 0, .int 0, .ref w0, .ref w1, .ref w2, .ref w3, .ref w4, .ref w5, .ref w6, .ref w7, .ref w8, .ref w9, .int 0, .int 0, .int 0, .ref w10, .ref w11, .int 0, .ref w12, .ref w13, .ref w14, .ref w15, .ref w16, .ref w17, .ref w18, .ref w19, .ref w20, .int 0, .ref w21, .ref w22, .int 0, .int 0, .int 0])), (b6, .inl (k.1, 900, .inl (upd (upd (upd (upd ft 4 (vp_nar .byte (((y >>> (24 &&& 31))).toInt8.toInt32))) 5 (vp_nar .byte (((y >>> (16 &&& 31))).toInt8.toInt32))) 6 (vp_nar .byte (((y >>> (8 &&& 31))).toInt8.toInt32))) 7 (vp_nar .byte (((y >>> (0 &&& 31))).toInt8.toInt32)))))]) F 1 0 rfl rfl dX12_four_19 (vp_in_nI (n := 7) (by omega) (by omega)) rfl rfl rfl ?_
  refine jy_aload_n (pc' := 21) F 1 dX12_four_20 rfl rfl rfl ?_
  refine jy_dup (pc' := 22) F dX12_four_21 rfl rfl ?_
  refine jy_get (pc' := 25) (C := RX12) (T := TX12) (N := 51) (ci := 11) (v := .int 7) F hiX12 0 rfl rfl 10 (by decide) dX12_four_22 (List.mem_of_getElem? (i := 2) rfl) rfl rfl ?_
  refine jy_iconst (pc' := 26) (v := 1) F dX12_four_25 (by decide) rfl ?_
  refine jy_iadd (pc' := 27) (v := 8) F dX12_four_26 (by decide) rfl ?_
  refine jy_put (pc' := 30) (C := RX12) (T := TX12) (N := 51) (ci := 11) (ws' := [(m0, .inr (11, [.ref b1, .ref b2, .int 0, .long 0, .long 1, .ref b3, .ref b4, .ref b5, .ref b6, .ref b7, .int 8, .int 0, .int 0, .int 0, .int 0, .int 0, .int (-1), .int (-1), .int 0, .int 0, .ref w0, .ref w1, .ref w2, .ref w3, .ref w4, .ref w5, .ref w6, .ref w7, .ref w8, .ref w9, .int 0, .int 0, .int 0, .ref w10, .ref w11, .int 0, .ref w12, .ref w13, .ref w14, .ref w15, .ref w16, .ref w17, .ref w18, .ref w19, .ref w20, .int 0, .ref w21, .ref w22, .int 0, .int 0, .int 0])), (b6, .inl (k.1, 900, .inl (upd (upd (upd (upd ft 4 (vp_nar .byte (((y >>> (24 &&& 31))).toInt8.toInt32))) 5 (vp_nar .byte (((y >>> (16 &&& 31))).toInt8.toInt32))) 6 (vp_nar .byte (((y >>> (8 &&& 31))).toInt8.toInt32))) 7 (vp_nar .byte (((y >>> (0 &&& 31))).toInt8.toInt32)))))]) F hiX12 tyX12 tyX12_ok nmX12 0 rfl rfl 10 (by decide) dX12_four_27 (List.mem_of_getElem? (i := 2) rfl) rfl rfl rfl rfl (Nat.le_of_ble_eq_true rfl) rfl rfl ?_
  refine jy_iinc (pc' := 33) (v := (-8)) (lv' := [(2, .int (-8)), (0, .ref m0), (1, .int y)]) F 0 dX12_four_30 rfl (by decide) (by decide) rfl rfl ?_
  refine jy_goto (tgt := 3) F dX12_four_33 (by decide) ?_
  refine jy_iload_n (pc' := 4) F 0 dX12_four_3 rfl rfl rfl ?_
  refine jy_if_lt (pc' := 7) (tgt := 36) F dX12_four_4 (by decide) rfl (fun _ => ?_) (fun h => absurd h (by decide))
  refine jy_widen (cells' := 0) (slots' := 0) (by decide) (by decide) ?_
  exact jy_vret F hr hlk ((upd (upd (upd (upd ft 4 (vp_nar .byte (((y >>> (24 &&& 31))).toInt8.toInt32))) 5 (vp_nar .byte (((y >>> (16 &&& 31))).toInt8.toInt32))) 6 (vp_nar .byte (((y >>> (8 &&& 31))).toInt8.toInt32))) 7 (vp_nar .byte (((y >>> (0 &&& 31))).toInt8.toInt32)))) (trivial) [0, 1] rfl (by decide) dX12_four_36
def ws_c_X12_four_8 : List Cond := .code yX12_four cX12_four 3 none :: ([.fieldLink "NestedCheckerModel" 30 "NestedCheckerModel" "tape" "[B", .fieldLink "NestedCheckerModel" 147 "NestedCheckerModel" "taped" "I"] ++ wsX120)
set_option maxHeartbeats 4000000 in
set_option maxRecDepth 100000 in
theorem c_X12_four_8 (l : Launch) (D : va_G) (k : jK) (m0 : Nat) (b1 : Nat) (b2 : Nat) (b3 : Nat) (b4 : Nat) (b5 : Nat) (b6 : Nat) (b7 : Nat) (w0 : Nat) (w1 : Nat) (w2 : Nat) (w3 : Nat) (w4 : Nat) (w5 : Nat) (w6 : Nat) (w7 : Nat) (w8 : Nat) (w9 : Nat) (w10 : Nat) (w11 : Nat) (w12 : Nat) (w13 : Nat) (w14 : Nat) (w15 : Nat) (w16 : Nat) (w17 : Nat) (w18 : Nat) (w19 : Nat) (w20 : Nat) (w21 : Nat) (w22 : Nat) (ft : Nat → Int32) (y : Int32) (sz : Nat)  : Met l yX12_four ws_c_X12_four_8 ({ frames := 0, cells := 0, slots := 0, locals := 0 }) (jy_P [.ref m0, .int y] D vwCl (jT k) jW [(m0, .inr (11, [.ref b1, .ref b2, .int 0, .long 0, .long 1, .ref b3, .ref b4, .ref b5, .ref b6, .ref b7, .int 8, .int 0, .int 0, .int 0, .int 0, .int 0, .int (-1), .int (-1), .int 0, .int 0, .ref w0, .ref w1, .ref w2, .ref w3, .ref w4, .ref w5, .ref w6, .ref w7, .ref w8, .ref w9, .int 0, .int 0, .int 0, .ref w10, .ref w11, .int 0, .ref w12, .ref w13, .ref w14, .ref w15, .ref w16, .ref w17, .ref w18, .ref w19, .ref w20, .int 0, .ref w21, .ref w22, .int 0, .int 0, .int 0])), (b6, .inl (k.1, 900, .inl ft))] sz) (va_Qv (fun (u : (Nat → Int32)) => True) (jy_B D vwCl (va_A [(m0, .inr (11, [.ref b1, .ref b2, .int 0, .long 0, .long 1, .ref b3, .ref b4, .ref b5, .ref b6, .ref b7, .int 8, .int 0, .int 0, .int 0, .int 0, .int 0, .int (-1), .int (-1), .int 0, .int 0, .ref w0, .ref w1, .ref w2, .ref w3, .ref w4, .ref w5, .ref w6, .ref w7, .ref w8, .ref w9, .int 0, .int 0, .int 0, .ref w10, .ref w11, .int 0, .ref w12, .ref w13, .ref w14, .ref w15, .ref w16, .ref w17, .ref w18, .ref w19, .ref w20, .int 0, .ref w21, .ref w22, .int 0, .int 0, .int 0])), (b6, .inl (k.1, 900, .inl ft))] sz) (fun (u : (Nat → Int32)) => [(m0, .inr (11, [.ref b1, .ref b2, .int 0, .long 0, .long 1, .ref b3, .ref b4, .ref b5, .ref b6, .ref b7, .int 12, .int 0, .int 0, .int 0, .int 0, .int 0, .int (-1), .int (-1), .int 0, .int 0, .ref w0, .ref w1, .ref w2, .ref w3, .ref w4, .ref w5, .ref w6, .ref w7, .ref w8, .ref w9, .int 0, .int 0, .int 0, .ref w10, .ref w11, .int 0, .ref w12, .ref w13, .ref w14, .ref w15, .ref w16, .ref w17, .ref w18, .ref w19, .ref w20, .int 0, .ref w21, .ref w22, .int 0, .int 0, .int 0])), (b6, .inl (k.1, 900, .inl u))])) (va_A [(m0, .inr (11, [.ref b1, .ref b2, .int 0, .long 0, .long 1, .ref b3, .ref b4, .ref b5, .ref b6, .ref b7, .int 8, .int 0, .int 0, .int 0, .int 0, .int 0, .int (-1), .int (-1), .int 0, .int 0, .ref w0, .ref w1, .ref w2, .ref w3, .ref w4, .ref w5, .ref w6, .ref w7, .ref w8, .ref w9, .int 0, .int 0, .int 0, .ref w10, .ref w11, .int 0, .ref w12, .ref w13, .ref w14, .ref w15, .ref w16, .ref w17, .ref w18, .ref w19, .ref w20, .int 0, .ref w21, .ref w22, .int 0, .int 0, .int 0])), (b6, .inl (k.1, 900, .inl ft))] sz)) 0 0 (va_A [(m0, .inr (11, [.ref b1, .ref b2, .int 0, .long 0, .long 1, .ref b3, .ref b4, .ref b5, .ref b6, .ref b7, .int 8, .int 0, .int 0, .int 0, .int 0, .int 0, .int (-1), .int (-1), .int 0, .int 0, .ref w0, .ref w1, .ref w2, .ref w3, .ref w4, .ref w5, .ref w6, .ref w7, .ref w8, .ref w9, .int 0, .int 0, .int 0, .ref w10, .ref w11, .int 0, .ref w12, .ref w13, .ref w14, .ref w15, .ref w16, .ref w17, .ref w18, .ref w19, .ref w20, .int 0, .ref w21, .ref w22, .int 0, .int 0, .int 0])), (b6, .inl (k.1, 900, .inl ft))] sz) := by
  refine jy_met (cc := cX12_four) (maxL := 3) (ret := none) (lv := [(0, .ref m0), (1, .int y)]) (by decide) rfl (Nat.le_of_ble_eq_true rfl) rfl ?_
  intro p e s m below meth c F hr hlk hnm hN hA
  have hiX12 : ∀ w ∈ u_ws RX12 TX12 51, w ∈ ws_c_X12_four_8 := fun w hw => List.mem_cons_of_mem _ (List.mem_append_right _ hw)
  refine jy_bipush (pc' := 2) (v := 24) F dX12_four_0 (by decide) rfl ?_
  refine jy_istore_n (pc' := 3) (lv' := [(2, .int 24), (0, .ref m0), (1, .int y)]) F dX12_four_2 rfl (by decide) rfl rfl ?_
  refine jy_iload_n (pc' := 4) F 0 dX12_four_3 rfl rfl rfl ?_
  refine jy_if_lt (pc' := 7) (tgt := 36) F dX12_four_4 (by decide) rfl (fun h => absurd h (by decide)) (fun _ => ?_)
  refine jy_aload_n (pc' := 8) F 1 dX12_four_7 rfl rfl rfl ?_
  refine jy_get (pc' := 11) (C := RX12) (T := TX12) (N := 51) (ci := 11) (v := .ref b6) F hiX12 0 rfl rfl 8 (by decide) dX12_four_8 (List.mem_of_getElem? (i := 1) rfl) rfl rfl ?_
  refine jy_aload_n (pc' := 12) F 1 dX12_four_11 rfl rfl rfl ?_
  refine jy_get (pc' := 15) (C := RX12) (T := TX12) (N := 51) (ci := 11) (v := .int 8) F hiX12 0 rfl rfl 10 (by decide) dX12_four_12 (List.mem_of_getElem? (i := 2) rfl) rfl rfl ?_
  refine jy_iload_n (pc' := 16) F 2 dX12_four_15 rfl rfl rfl ?_
  refine jy_iload_n (pc' := 17) F 0 dX12_four_16 rfl rfl rfl ?_
  refine jy_ishr (pc' := 18) (v := (y >>> (24 &&& 31))) F dX12_four_17 rfl rfl ?_
  refine jy_i2b (pc' := 19) (v := (((y >>> (24 &&& 31))).toInt8.toInt32)) F dX12_four_18 rfl rfl ?_
  refine jy_bast (pc' := 20) (g := (upd ft 8 (vp_nar .byte (((y >>> (24 &&& 31))).toInt8.toInt32)))) (ws' := [(m0, .inr (11, [.ref b1, .ref b2, .int 0, .long 0, .long 1, .ref b3, .ref b4, .ref b5, .ref b6, .ref b7, .int 8, .int 0, .int 0, .int 0, .int 0, .int 0, .int (-1), .int (-1), .int 0, .int 0, .ref w0, .ref w1, .ref w2, .ref w3, .ref w4, .ref w5, .ref w6, .ref w7, .ref w8, .ref w9, .int 0, .int 0, .int 0, .ref w10, .ref w11, .int 0, .ref w12, .ref w13, .ref w14, .ref w15, .ref w16, .ref w17, .ref w18, .ref w19, .ref w20, .int 0, .ref w21, .ref w22, .int 0, .int 0, .int 0])), (b6, .inl (k.1, 900, .inl (upd ft 8 (vp_nar .byte (((y >>> (24 &&& 31))).toInt8.toInt32)))))]) F 1 0 rfl rfl dX12_four_19 (vp_in_nI (n := 8) (by omega) (by omega)) rfl rfl rfl ?_
  refine jy_aload_n (pc' := 21) F 1 dX12_four_20 rfl rfl rfl ?_
  refine jy_dup (pc' := 22) F dX12_four_21 rfl rfl ?_
  refine jy_get (pc' := 25) (C := RX12) (T := TX12) (N := 51) (ci := 11) (v := .int 8) F hiX12 0 rfl rfl 10 (by decide) dX12_four_22 (List.mem_of_getElem? (i := 2) rfl) rfl rfl ?_
  refine jy_iconst (pc' := 26) (v := 1) F dX12_four_25 (by decide) rfl ?_
  refine jy_iadd (pc' := 27) (v := 9) F dX12_four_26 (by decide) rfl ?_
  refine jy_put (pc' := 30) (C := RX12) (T := TX12) (N := 51) (ci := 11) (ws' := [(m0, .inr (11, [.ref b1, .ref b2, .int 0, .long 0, .long 1, .ref b3, .ref b4, .ref b5, .ref b6, .ref b7, .int 9, .int 0, .int 0, .int 0, .int 0, .int 0, .int (-1), .int (-1), .int 0, .int 0, .ref w0, .ref w1, .ref w2, .ref w3, .ref w4, .ref w5, .ref w6, .ref w7, .ref w8, .ref w9, .int 0, .int 0, .int 0, .ref w10, .ref w11, .int 0, .ref w12, .ref w13, .ref w14, .ref w15, .ref w16, .ref w17, .ref w18, .ref w19, .ref w20, .int 0, .ref w21, .ref w22, .int 0, .int 0, .int 0])), (b6, .inl (k.1, 900, .inl (upd ft 8 (vp_nar .byte (((y >>> (24 &&& 31))).toInt8.toInt32)))))]) F hiX12 tyX12 tyX12_ok nmX12 0 rfl rfl 10 (by decide) dX12_four_27 (List.mem_of_getElem? (i := 2) rfl) rfl rfl rfl rfl (Nat.le_of_ble_eq_true rfl) rfl rfl ?_
  refine jy_iinc (pc' := 33) (v := 16) (lv' := [(2, .int 16), (0, .ref m0), (1, .int y)]) F 0 dX12_four_30 rfl (by decide) (by decide) rfl rfl ?_
  refine jy_goto (tgt := 3) F dX12_four_33 (by decide) ?_
  refine jy_iload_n (pc' := 4) F 0 dX12_four_3 rfl rfl rfl ?_
  refine jy_if_lt (pc' := 7) (tgt := 36) F dX12_four_4 (by decide) rfl (fun h => absurd h (by decide)) (fun _ => ?_)
  refine jy_aload_n (pc' := 8) F 1 dX12_four_7 rfl rfl rfl ?_
  refine jy_get (pc' := 11) (C := RX12) (T := TX12) (N := 51) (ci := 11) (v := .ref b6) F hiX12 0 rfl rfl 8 (by decide) dX12_four_8 (List.mem_of_getElem? (i := 1) rfl) rfl rfl ?_
  refine jy_aload_n (pc' := 12) F 1 dX12_four_11 rfl rfl rfl ?_
  refine jy_get (pc' := 15) (C := RX12) (T := TX12) (N := 51) (ci := 11) (v := .int 9) F hiX12 0 rfl rfl 10 (by decide) dX12_four_12 (List.mem_of_getElem? (i := 2) rfl) rfl rfl ?_
  refine jy_iload_n (pc' := 16) F 2 dX12_four_15 rfl rfl rfl ?_
  refine jy_iload_n (pc' := 17) F 0 dX12_four_16 rfl rfl rfl ?_
  refine jy_ishr (pc' := 18) (v := (y >>> (16 &&& 31))) F dX12_four_17 rfl rfl ?_
  refine jy_i2b (pc' := 19) (v := (((y >>> (16 &&& 31))).toInt8.toInt32)) F dX12_four_18 rfl rfl ?_
  refine jy_bast (pc' := 20) (g := (upd (upd ft 8 (vp_nar .byte (((y >>> (24 &&& 31))).toInt8.toInt32))) 9 (vp_nar .byte (((y >>> (16 &&& 31))).toInt8.toInt32)))) (ws' := [(m0, .inr (11, [.ref b1, .ref b2, .int 0, .long 0, .long 1, .ref b3, .ref b4, .ref b5, .ref b6, .ref b7, .int 9, .int 0, .int 0, .int 0, .int 0, .int 0, .int (-1), .int (-1), .int 0, .int 0, .ref w0, .ref w1, .ref w2, .ref w3, .ref w4, .ref w5, .ref w6, .ref w7, .ref w8, .ref w9, .int 0, .int 0, .int 0, .ref w10, .ref w11, .int 0, .ref w12, .ref w13, .ref w14, .ref w15, .ref w16, .ref w17, .ref w18, .ref w19, .ref w20, .int 0, .ref w21, .ref w22, .int 0, .int 0, .int 0])), (b6, .inl (k.1, 900, .inl (upd (upd ft 8 (vp_nar .byte (((y >>> (24 &&& 31))).toInt8.toInt32))) 9 (vp_nar .byte (((y >>> (16 &&& 31))).toInt8.toInt32)))))]) F 1 0 rfl rfl dX12_four_19 (vp_in_nI (n := 9) (by omega) (by omega)) rfl rfl rfl ?_
  refine jy_aload_n (pc' := 21) F 1 dX12_four_20 rfl rfl rfl ?_
  refine jy_dup (pc' := 22) F dX12_four_21 rfl rfl ?_
  refine jy_get (pc' := 25) (C := RX12) (T := TX12) (N := 51) (ci := 11) (v := .int 9) F hiX12 0 rfl rfl 10 (by decide) dX12_four_22 (List.mem_of_getElem? (i := 2) rfl) rfl rfl ?_
  refine jy_iconst (pc' := 26) (v := 1) F dX12_four_25 (by decide) rfl ?_
  refine jy_iadd (pc' := 27) (v := 10) F dX12_four_26 (by decide) rfl ?_
  refine jy_put (pc' := 30) (C := RX12) (T := TX12) (N := 51) (ci := 11) (ws' := [(m0, .inr (11, [.ref b1, .ref b2, .int 0, .long 0, .long 1, .ref b3, .ref b4, .ref b5, .ref b6, .ref b7, .int 10, .int 0, .int 0, .int 0, .int 0, .int 0, .int (-1), .int (-1), .int 0, .int 0, .ref w0, .ref w1, .ref w2, .ref w3, .ref w4, .ref w5, .ref w6, .ref w7, .ref w8, .ref w9, .int 0, .int 0, .int 0, .ref w10, .ref w11, .int 0, .ref w12, .ref w13, .ref w14, .ref w15, .ref w16, .ref w17, .ref w18, .ref w19, .ref w20, .int 0, .ref w21, .ref w22, .int 0, .int 0, .int 0])), (b6, .inl (k.1, 900, .inl (upd (upd ft 8 (vp_nar .byte (((y >>> (24 &&& 31))).toInt8.toInt32))) 9 (vp_nar .byte (((y >>> (16 &&& 31))).toInt8.toInt32)))))]) F hiX12 tyX12 tyX12_ok nmX12 0 rfl rfl 10 (by decide) dX12_four_27 (List.mem_of_getElem? (i := 2) rfl) rfl rfl rfl rfl (Nat.le_of_ble_eq_true rfl) rfl rfl ?_
  refine jy_iinc (pc' := 33) (v := 8) (lv' := [(2, .int 8), (0, .ref m0), (1, .int y)]) F 0 dX12_four_30 rfl (by decide) (by decide) rfl rfl ?_
  refine jy_goto (tgt := 3) F dX12_four_33 (by decide) ?_
  refine jy_iload_n (pc' := 4) F 0 dX12_four_3 rfl rfl rfl ?_
  refine jy_if_lt (pc' := 7) (tgt := 36) F dX12_four_4 (by decide) rfl (fun h => absurd h (by decide)) (fun _ => ?_)
  refine jy_aload_n (pc' := 8) F 1 dX12_four_7 rfl rfl rfl ?_
  refine jy_get (pc' := 11) (C := RX12) (T := TX12) (N := 51) (ci := 11) (v := .ref b6) F hiX12 0 rfl rfl 8 (by decide) dX12_four_8 (List.mem_of_getElem? (i := 1) rfl) rfl rfl ?_
  refine jy_aload_n (pc' := 12) F 1 dX12_four_11 rfl rfl rfl ?_
  refine jy_get (pc' := 15) (C := RX12) (T := TX12) (N := 51) (ci := 11) (v := .int 10) F hiX12 0 rfl rfl 10 (by decide) dX12_four_12 (List.mem_of_getElem? (i := 2) rfl) rfl rfl ?_
  refine jy_iload_n (pc' := 16) F 2 dX12_four_15 rfl rfl rfl ?_
  refine jy_iload_n (pc' := 17) F 0 dX12_four_16 rfl rfl rfl ?_
  refine jy_ishr (pc' := 18) (v := (y >>> (8 &&& 31))) F dX12_four_17 rfl rfl ?_
  refine jy_i2b (pc' := 19) (v := (((y >>> (8 &&& 31))).toInt8.toInt32)) F dX12_four_18 rfl rfl ?_
  refine jy_bast (pc' := 20) (g := (upd (upd (upd ft 8 (vp_nar .byte (((y >>> (24 &&& 31))).toInt8.toInt32))) 9 (vp_nar .byte (((y >>> (16 &&& 31))).toInt8.toInt32))) 10 (vp_nar .byte (((y >>> (8 &&& 31))).toInt8.toInt32)))) (ws' := [(m0, .inr (11, [.ref b1, .ref b2, .int 0, .long 0, .long 1, .ref b3, .ref b4, .ref b5, .ref b6, .ref b7, .int 10, .int 0, .int 0, .int 0, .int 0, .int 0, .int (-1), .int (-1), .int 0, .int 0, .ref w0, .ref w1, .ref w2, .ref w3, .ref w4, .ref w5, .ref w6, .ref w7, .ref w8, .ref w9, .int 0, .int 0, .int 0, .ref w10, .ref w11, .int 0, .ref w12, .ref w13, .ref w14, .ref w15, .ref w16, .ref w17, .ref w18, .ref w19, .ref w20, .int 0, .ref w21, .ref w22, .int 0, .int 0, .int 0])), (b6, .inl (k.1, 900, .inl (upd (upd (upd ft 8 (vp_nar .byte (((y >>> (24 &&& 31))).toInt8.toInt32))) 9 (vp_nar .byte (((y >>> (16 &&& 31))).toInt8.toInt32))) 10 (vp_nar .byte (((y >>> (8 &&& 31))).toInt8.toInt32)))))]) F 1 0 rfl rfl dX12_four_19 (vp_in_nI (n := 10) (by omega) (by omega)) rfl rfl rfl ?_
  refine jy_aload_n (pc' := 21) F 1 dX12_four_20 rfl rfl rfl ?_
  refine jy_dup (pc' := 22) F dX12_four_21 rfl rfl ?_
  refine jy_get (pc' := 25) (C := RX12) (T := TX12) (N := 51) (ci := 11) (v := .int 10) F hiX12 0 rfl rfl 10 (by decide) dX12_four_22 (List.mem_of_getElem? (i := 2) rfl) rfl rfl ?_
  refine jy_iconst (pc' := 26) (v := 1) F dX12_four_25 (by decide) rfl ?_
  refine jy_iadd (pc' := 27) (v := 11) F dX12_four_26 (by decide) rfl ?_
  refine jy_put (pc' := 30) (C := RX12) (T := TX12) (N := 51) (ci := 11) (ws' := [(m0, .inr (11, [.ref b1, .ref b2, .int 0, .long 0, .long 1, .ref b3, .ref b4, .ref b5, .ref b6, .ref b7, .int 11, .int 0, .int 0, .int 0, .int 0, .int 0, .int (-1), .int (-1), .int 0, .int 0, .ref w0, .ref w1, .ref w2, .ref w3, .ref w4, .ref w5, .ref w6, .ref w7, .ref w8, .ref w9, .int 0, .int 0, .int 0, .ref w10, .ref w11, .int 0, .ref w12, .ref w13, .ref w14, .ref w15, .ref w16, .ref w17, .ref w18, .ref w19, .ref w20, .int 0, .ref w21, .ref w22, .int 0, .int 0, .int 0])), (b6, .inl (k.1, 900, .inl (upd (upd (upd ft 8 (vp_nar .byte (((y >>> (24 &&& 31))).toInt8.toInt32))) 9 (vp_nar .byte (((y >>> (16 &&& 31))).toInt8.toInt32))) 10 (vp_nar .byte (((y >>> (8 &&& 31))).toInt8.toInt32)))))]) F hiX12 tyX12 tyX12_ok nmX12 0 rfl rfl 10 (by decide) dX12_four_27 (List.mem_of_getElem? (i := 2) rfl) rfl rfl rfl rfl (Nat.le_of_ble_eq_true rfl) rfl rfl ?_
  refine jy_iinc (pc' := 33) (v := 0) (lv' := [(2, .int 0), (0, .ref m0), (1, .int y)]) F 0 dX12_four_30 rfl (by decide) (by decide) rfl rfl ?_
  refine jy_goto (tgt := 3) F dX12_four_33 (by decide) ?_
  refine jy_iload_n (pc' := 4) F 0 dX12_four_3 rfl rfl rfl ?_
  refine jy_if_lt (pc' := 7) (tgt := 36) F dX12_four_4 (by decide) rfl (fun h => absurd h (by decide)) (fun _ => ?_)
  refine jy_aload_n (pc' := 8) F 1 dX12_four_7 rfl rfl rfl ?_
  refine jy_get (pc' := 11) (C := RX12) (T := TX12) (N := 51) (ci := 11) (v := .ref b6) F hiX12 0 rfl rfl 8 (by decide) dX12_four_8 (List.mem_of_getElem? (i := 1) rfl) rfl rfl ?_
  refine jy_aload_n (pc' := 12) F 1 dX12_four_11 rfl rfl rfl ?_
  refine jy_get (pc' := 15) (C := RX12) (T := TX12) (N := 51) (ci := 11) (v := .int 11) F hiX12 0 rfl rfl 10 (by decide) dX12_four_12 (List.mem_of_getElem? (i := 2) rfl) rfl rfl ?_
  refine jy_iload_n (pc' := 16) F 2 dX12_four_15 rfl rfl rfl ?_
  refine jy_iload_n (pc' := 17) F 0 dX12_four_16 rfl rfl rfl ?_
  refine jy_ishr (pc' := 18) (v := (y >>> (0 &&& 31))) F dX12_four_17 rfl rfl ?_
  refine jy_i2b (pc' := 19) (v := (((y >>> (0 &&& 31))).toInt8.toInt32)) F dX12_four_18 rfl rfl ?_
  refine jy_bast (pc' := 20) (g := (upd (upd (upd (upd ft 8 (vp_nar .byte (((y >>> (24 &&& 31))).toInt8.toInt32))) 9 (vp_nar .byte (((y >>> (16 &&& 31))).toInt8.toInt32))) 10 (vp_nar .byte (((y >>> (8 &&& 31))).toInt8.toInt32))) 11 (vp_nar .byte (((y >>> (0 &&& 31))).toInt8.toInt32)))) (ws' := [(m0, .inr (11, [.ref b1, .ref b2, .int 0, .long 0, .long 1, .ref b3, .ref b4, .ref b5, .ref b6, .ref b7, .int 11, .int 0, .int 0, .int 0, .int 0, .int 0, .int (-1), .int (-1), .int 0, .int 0, .ref w0, .ref w1, .ref w2, .ref w3, .ref w4, .ref w5, .ref w6, .ref w7, .ref w8, .ref w9, .int 0, .int 0, .int 0, .ref w10, .ref w11, .int 0, .ref w12, .ref w13, .ref w14, .ref w15, .ref w16, .ref w17, .ref w18, .ref w19, .ref w20, .int 0, .ref w21, .ref w22, .int 0, .int 0, .int 0])), (b6, .inl (k.1, 900, .inl (upd (upd (upd (upd ft 8 (vp_nar .byte (((y >>> (24 &&& 31))).toInt8.toInt32))) 9 (vp_nar .byte (((y >>> (16 &&& 31))).toInt8.toInt32))) 10 (vp_nar .byte (((y >>> (8 &&& 31))).toInt8.toInt32))) 11 (vp_nar .byte (((y >>> (0 &&& 31))).toInt8.toInt32)))))]) F 1 0 rfl rfl dX12_four_19 (vp_in_nI (n := 11) (by omega) (by omega)) rfl rfl rfl ?_
  refine jy_aload_n (pc' := 21) F 1 dX12_four_20 rfl rfl rfl ?_
  refine jy_dup (pc' := 22) F dX12_four_21 rfl rfl ?_
  refine jy_get (pc' := 25) (C := RX12) (T := TX12) (N := 51) (ci := 11) (v := .int 11) F hiX12 0 rfl rfl 10 (by decide) dX12_four_22 (List.mem_of_getElem? (i := 2) rfl) rfl rfl ?_
  refine jy_iconst (pc' := 26) (v := 1) F dX12_four_25 (by decide) rfl ?_
  refine jy_iadd (pc' := 27) (v := 12) F dX12_four_26 (by decide) rfl ?_
  refine jy_put (pc' := 30) (C := RX12) (T := TX12) (N := 51) (ci := 11) (ws' := [(m0, .inr (11, [.ref b1, .ref b2, .int 0, .long 0, .long 1, .ref b3, .ref b4, .ref b5, .ref b6, .ref b7, .int 12, .int 0, .int 0, .int 0, .int 0, .int 0, .int (-1), .int (-1), .int 0, .int 0, .ref w0, .ref w1, .ref w2, .ref w3, .ref w4, .ref w5, .ref w6, .ref w7, .ref w8, .ref w9, .int 0, .int 0, .int 0, .ref w10, .ref w11, .int 0, .ref w12, .ref w13, .ref w14, .ref w15, .ref w16, .ref w17, .ref w18, .ref w19, .ref w20, .int 0, .ref w21, .ref w22, .int 0, .int 0, .int 0])), (b6, .inl (k.1, 900, .inl (upd (upd (upd (upd ft 8 (vp_nar .byte (((y >>> (24 &&& 31))).toInt8.toInt32))) 9 (vp_nar .byte (((y >>> (16 &&& 31))).toInt8.toInt32))) 10 (vp_nar .byte (((y >>> (8 &&& 31))).toInt8.toInt32))) 11 (vp_nar .byte (((y >>> (0 &&& 31))).toInt8.toInt32)))))]) F hiX12 tyX12 tyX12_ok nmX12 0 rfl rfl 10 (by decide) dX12_four_27 (List.mem_of_getElem? (i := 2) rfl) rfl rfl rfl rfl (Nat.le_of_ble_eq_true rfl) rfl rfl ?_
  refine jy_iinc (pc' := 33) (v := (-8)) (lv' := [(2, .int (-8)), (0, .ref m0), (1, .int y)]) F 0 dX12_four_30 rfl (by decide) (by decide) rfl rfl ?_
  refine jy_goto (tgt := 3) F dX12_four_33 (by decide) ?_
  refine jy_iload_n (pc' := 4) F 0 dX12_four_3 rfl rfl rfl ?_
  refine jy_if_lt (pc' := 7) (tgt := 36) F dX12_four_4 (by decide) rfl (fun _ => ?_) (fun h => absurd h (by decide))
  refine jy_widen (cells' := 0) (slots' := 0) (by decide) (by decide) ?_
  exact jy_vret F hr hlk ((upd (upd (upd (upd ft 8 (vp_nar .byte (((y >>> (24 &&& 31))).toInt8.toInt32))) 9 (vp_nar .byte (((y >>> (16 &&& 31))).toInt8.toInt32))) 10 (vp_nar .byte (((y >>> (8 &&& 31))).toInt8.toInt32))) 11 (vp_nar .byte (((y >>> (0 &&& 31))).toInt8.toInt32)))) (trivial) [0, 1] rfl (by decide) dX12_four_36
