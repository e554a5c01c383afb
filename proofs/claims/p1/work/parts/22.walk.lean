def ws_c_X12_four_12 : List Cond := .code yX12_four cX12_four 3 none :: ([.fieldLink "NestedCheckerModel" 30 "NestedCheckerModel" "tape" "[B", .fieldLink "NestedCheckerModel" 147 "NestedCheckerModel" "taped" "I"] ++ wsX120)
set_option maxHeartbeats 4000000 in
set_option maxRecDepth 100000 in
theorem c_X12_four_12 (l : Launch) (D : va_G) (k : jK) (m0 : Nat) (b1 : Nat) (b2 : Nat) (b3 : Nat) (b4 : Nat) (b5 : Nat) (b6 : Nat) (b7 : Nat) (w0 : Nat) (w1 : Nat) (w2 : Nat) (w3 : Nat) (w4 : Nat) (w5 : Nat) (w6 : Nat) (w7 : Nat) (w8 : Nat) (w9 : Nat) (w10 : Nat) (w11 : Nat) (w12 : Nat) (w13 : Nat) (w14 : Nat) (w15 : Nat) (w16 : Nat) (w17 : Nat) (w18 : Nat) (w19 : Nat) (w20 : Nat) (w21 : Nat) (w22 : Nat) (ft : Nat → Int32) (y : Int32) (sz : Nat)  : Met l yX12_four ws_c_X12_four_12 ({ frames := 0, cells := 0, slots := 0, locals := 0 }) (jy_P [.ref m0, .int y] D vwCl (jT k) jW [(m0, .inr (11, [.ref b1, .ref b2, .int 0, .long 0, .long 1, .ref b3, .ref b4, .ref b5, .ref b6, .ref b7, .int 12, .int 0, .int 0, .int 0, .int 0, .int 0, .int (-1), .int (-1), .int 0, .int 0, .ref w0, .ref w1, .ref w2, .ref w3, .ref w4, .ref w5, .ref w6, .ref w7, .ref w8, .ref w9, .int 0, .int 0, .int 0, .ref w10, .ref w11, .int 0, .ref w12, .ref w13, .ref w14, .ref w15, .ref w16, .ref w17, .ref w18, .ref w19, .ref w20, .int 0, .ref w21, .ref w22, .int 0, .int 0, .int 0])), (b6, .inl (k.1, 900, .inl ft))] sz) (va_Qv (fun (u : (Nat → Int32)) => True) (jy_B D vwCl (va_A [(m0, .inr (11, [.ref b1, .ref b2, .int 0, .long 0, .long 1, .ref b3, .ref b4, .ref b5, .ref b6, .ref b7, .int 12, .int 0, .int 0, .int 0, .int 0, .int 0, .int (-1), .int (-1), .int 0, .int 0, .ref w0, .ref w1, .ref w2, .ref w3, .ref w4, .ref w5, .ref w6, .ref w7, .ref w8, .ref w9, .int 0, .int 0, .int 0, .ref w10, .ref w11, .int 0, .ref w12, .ref w13, .ref w14, .ref w15, .ref w16, .ref w17, .ref w18, .ref w19, .ref w20, .int 0, .ref w21, .ref w22, .int 0, .int 0, .int 0])), (b6, .inl (k.1, 900, .inl ft))] sz) (fun (u : (Nat → Int32)) => [(m0, .inr (11, [.ref b1, .ref b2, .int 0, .long 0, .long 1, .ref b3, .ref b4, .ref b5, .ref b6, .ref b7, .int 16, .int 0, .int 0, .int 0, .int 0, .int 0, .int (-1), .int (-1), .int 0, .int 0, .ref w0, .ref w1, .ref w2, .ref w3, .ref w4, .ref w5, .ref w6, .ref w7, .ref w8, .ref w9, .int 0, .int 0, .int 0, .ref w10, .ref w11, .int 0, .ref w12, .ref w13, .ref w14, .ref w15, .ref w16, .ref w17, .ref w18, .ref w19, .ref w20, .int 0, .ref w21, .ref w22, .int 0, .int 0, .int 0])), (b6, .inl (k.1, 900, .inl u))])) (va_A [(m0, .inr (11, [.ref b1, .ref b2, .int 0, .long 0, .long 1, .ref b3, .ref b4, .ref b5, .ref b6, .ref b7, .int 12, .int 0, .int 0, .int 0, .int 0, .int 0, .int (-1), .int (-1), .int 0, .int 0, .ref w0, .ref w1, .ref w2, .ref w3, .ref w4, .ref w5, .ref w6, .ref w7, .ref w8, .ref w9, .int 0, .int 0, .int 0, .ref w10, .ref w11, .int 0, .ref w12, .ref w13, .ref w14, .ref w15, .ref w16, .ref w17, .ref w18, .ref w19, .ref w20, .int 0, .ref w21, .ref w22, .int 0, .int 0, .int 0])), (b6, .inl (k.1, 900, .inl ft))] sz)) 0 0 (va_A [(m0, .inr (11, [.ref b1, .ref b2, .int 0, .long 0, .long 1, .ref b3, .ref b4, .ref b5, .ref b6, .ref b7, .int 12, .int 0, .int 0, .int 0, .int 0, .int 0, .int (-1), .int (-1), .int 0, .int 0, .ref w0, .ref w1, .ref w2, .ref w3, .ref w4, .ref w5, .ref w6, .ref w7, .ref w8, .ref w9, .int 0, .int 0, .int 0, .ref w10, .ref w11, .int 0, .ref w12, .ref w13, .ref w14, .ref w15, .ref w16, .ref w17, .ref w18, .ref w19, .ref w20, .int 0, .ref w21, .ref w22, .int 0, .int 0, .int 0])), (b6, .inl (k.1, 900, .inl ft))] sz) := by
  refine jy_met (cc := cX12_four) (maxL := 3) (ret := none) (lv := [(0, .ref m0), (1, .int y)]) (by decide) rfl (Nat.le_of_ble_eq_true rfl) rfl ?_
  intro p e s m below meth c F hr hlk hnm hN hA
  have hiX12 : ∀ w ∈ u_ws RX12 TX12 51, w ∈ ws_c_X12_four_12 := fun w hw => List.mem_cons_of_mem _ (List.mem_append_right _ hw)
  refine jy_bipush (pc' := 2) (v := 24) F dX12_four_0 (by decide) rfl ?_
  refine jy_istore_n (pc' := 3) (lv' := [(2, .int 24), (0, .ref m0), (1, .int y)]) F dX12_four_2 rfl (by decide) rfl rfl ?_
  refine jy_iload_n (pc' := 4) F 0 dX12_four_3 rfl rfl rfl ?_
  refine jy_if_lt (pc' := 7) (tgt := 36) F dX12_four_4 (by decide) rfl (fun h => absurd h (by decide)) (fun _ => ?_)
  refine jy_aload_n (pc' := 8) F 1 dX12_four_7 rfl rfl rfl ?_
  refine jy_get (pc' := 11) (C := RX12) (T := TX12) (N := 51) (ci := 11) (v := .ref b6) F hiX12 0 rfl rfl 8 (by decide) dX12_four_8 (List.mem_of_getElem? (i := 1) rfl) rfl rfl ?_
  refine jy_aload_n (pc' := 12) F 1 dX12_four_11 rfl rfl rfl ?_
  refine jy_get (pc' := 15) (C := RX12) (T := TX12) (N := 51) (ci := 11) (v := .int 12) F hiX12 0 rfl rfl 10 (by decide) dX12_four_12 (List.mem_of_getElem? (i := 2) rfl) rfl rfl ?_
  refine jy_iload_n (pc' := 16) F 2 dX12_four_15 rfl rfl rfl ?_
  refine jy_iload_n (pc' := 17) F 0 dX12_four_16 rfl rfl rfl ?_
  refine jy_ishr (pc' := 18) (v := (y >>> (24 &&& 31))) F dX12_four_17 rfl rfl ?_
  refine jy_i2b (pc' := 19) (v := (((y >>> (24 &&& 31))).toInt8.toInt32)) F dX12_four_18 rfl rfl ?_
  refine jy_bast (pc' := 20) (g := (upd ft 12 (vp_nar .byte (((y >>> (24 &&& 31))).toInt8.toInt32)))) (ws' := [(m0, .inr (11, [.ref b1, .ref b2, .int 0, .long 0, .long 1, .ref b3, .ref b4, .ref b5, .ref b6, .ref b7, .int 12, .int 0, .int 0, .int 0, .int 0, .int 0, .int (-1), .int (-1), .int 0, .int 0, .ref w0, .ref w1, .ref w2, .ref w3, .ref w4, .ref w5, .ref w6, .ref w7, .ref w8, .ref w9, .int 0, .int 0, .int 0, .ref w10, .ref w11, .int 0, .ref w12, .ref w13, .ref w14, .ref w15, .ref w16, .ref w17, .ref w18, .ref w19, .ref w20, .int 0, .ref w21, .ref w22, .int 0, .int 0, .int 0])), (b6, .inl (k.1, 900, .inl (upd ft 12 (vp_nar .byte (((y >>> (24 &&& 31))).toInt8.toInt32)))))]) F 1 0 rfl rfl dX12_four_19 (vp_in_nI (n := 12) (by omega) (by omega)) rfl rfl rfl ?_
  refine jy_aload_n (pc' := 21) F 1 dX12_four_20 rfl rfl rfl ?_
  refine jy_dup (pc' := 22) F dX12_four_21 rfl rfl ?_
  refine jy_get (pc' := 25) (C := RX12) (T := TX12) (N := 51) (ci := 11) (v := .int 12) F hiX12 0 rfl rfl 10 (by decide) dX12_four_22 (List.mem_of_getElem? (i := 2) rfl) rfl rfl ?_
  refine jy_iconst (pc' := 26) (v := 1) F dX12_four_25 (by decide) rfl ?_
  refine jy_iadd (pc' := 27) (v := 13) F dX12_four_26 (by decide) rfl ?_
  refine jy_put (pc' := 30) (C := RX12) (T := TX12) (N := 51) (ci := 11) (ws' := [(m0, .inr (11, [.ref b1, .ref b2, .int 0, .long 0, .long 1, .ref b3, .ref b4, .ref b5, .ref b6, .ref b7, .int 13, .int 0, .int 0, .int 0, .int 0, .int 0, .int (-1), .int (-1), .int 0, .int 0, .ref w0, .ref w1, .ref w2, .ref w3, .ref w4, .ref w5, .ref w6, .ref w7, .ref w8, .ref w9, .int 0, .int 0, .int 0, .ref w10, .ref w11, .int 0, .ref w12, .ref w13, .ref w14, .ref w15, .ref w16, .ref w17, .ref w18, .ref w19, .ref w20, .int 0, .ref w21, .ref w22, .int 0, .int 0, .int 0])), (b6, .inl (k.1, 900, .inl (upd ft 12 (vp_nar .byte (((y >>> (24 &&& 31))).toInt8.toInt32)))))]) F hiX12 tyX12 tyX12_ok nmX12 0 rfl rfl 10 (by decide) dX12_four_27 (List.mem_of_getElem? (i := 2) rfl) rfl rfl rfl rfl (Nat.le_of_ble_eq_true rfl) rfl rfl ?_
  refine jy_iinc (pc' := 33) (v := 16) (lv' := [(2, .int 16), (0, .ref m0), (1, .int y)]) F 0 dX12_four_30 rfl (by decide) (by decide) rfl rfl ?_
  refine jy_goto (tgt := 3) F dX12_four_33 (by decide) ?_
  refine jy_iload_n (pc' := 4) F 0 dX12_four_3 rfl rfl rfl ?_
  refine jy_if_lt (pc' := 7) (tgt := 36) F dX12_four_4 (by decide) rfl (fun h => absurd h (by decide)) (fun _ => ?_)
  refine jy_aload_n (pc' := 8) F 1 dX12_four_7 rfl rfl rfl ?_
  refine jy_get (pc' := 11) (C := RX12) (T := TX12) (N := 51) (ci := 11) (v := .ref b6) F hiX12 0 rfl rfl 8 (by decide) dX12_four_8 (List.mem_of_getElem? (i := 1) rfl) rfl rfl ?_
  refine jy_aload_n (pc' := 12) F 1 dX12_four_11 rfl rfl rfl ?_
  refine jy_get (pc' := 15) (C := RX12) (T := TX12) (N := 51) (ci := 11) (v := .int 13) F hiX12 0 rfl rfl 10 (by decide) dX12_four_12 (List.mem_of_getElem? (i := 2) rfl) rfl rfl ?_
  refine jy_iload_n (pc' := 16) F 2 dX12_four_15 rfl rfl rfl ?_
  refine jy_iload_n (pc' := 17) F 0 dX12_four_16 rfl rfl rfl ?_
  refine jy_ishr (pc' := 18) (v := (y >>> (16 &&& 31))) F dX12_four_17 rfl rfl ?_
  refine jy_i2b (pc' := 19) (v := (((y >>> (16 &&& 31))).toInt8.toInt32)) F dX12_four_18 rfl rfl ?_
  refine jy_bast (pc' := 20) (g := (upd (upd ft 12 (vp_nar .byte (((y >>> (24 &&& 31))).toInt8.toInt32))) 13 (vp_nar .byte (((y >>> (16 &&& 31))).toInt8.toInt32)))) (ws' := [(m0, .inr (11, [.ref b1, .ref b2, .int 0, .long 0, .long 1, .ref b3, .ref b4, .ref b5, .ref b6, .ref b7, .int 13, .int 0, .int 0, .int 0, .int 0, .int 0, .int (-1), .int (-1), .int 0, .int 0, .ref w0, .ref w1, .ref w2, .ref w3, .ref w4, .ref w5, .ref w6, .ref w7, .ref w8, .ref w9, .int 0, .int 0, .int 0, .ref w10, .ref w11, .int 0, .ref w12, .ref w13, .ref w14, .ref w15, .ref w16, .ref w17, .ref w18, .ref w19, .ref w20, .int 0, .ref w21, .ref w22, .int 0, .int 0, .int 0])), (b6, .inl (k.1, 900, .inl (upd (upd ft 12 (vp_nar .byte (((y >>> (24 &&& 31))).toInt8.toInt32))) 13 (vp_nar .byte (((y >>> (16 &&& 31))).toInt8.toInt32)))))]) F 1 0 rfl rfl dX12_four_19 (vp_in_nI (n := 13) (by omega) (by omega)) rfl rfl rfl ?_
  refine jy_aload_n (pc' := 21) F 1 dX12_four_20 rfl rfl rfl ?_
  refine jy_dup (pc' := 22) F dX12_four_21 rfl rfl ?_
  refine jy_get (pc' := 25) (C := RX12) (T := TX12) (N := 51) (ci := 11) (v := .int 13) F hiX12 0 rfl rfl 10 (by decide) dX12_four_22 (List.mem_of_getElem? (i := 2) rfl) rfl rfl ?_
  refine jy_iconst (pc' := 26) (v := 1) F dX12_four_25 (by decide) rfl ?_
  refine jy_iadd (pc' := 27) (v := 14) F dX12_four_26 (by decide) rfl ?_
  refine jy_put (pc' := 30) (C := RX12) (T := TX12) (N := 51) (ci := 11) (ws' := [(m0, .inr (11, [.ref b1, .ref b2, .int 0, .long 0, .long 1, .ref b3, .ref b4, .ref b5, .ref b6, .ref b7, .int 14, .int 0, .int 0, .int 0, .int 0, .int 0, .int (-1), .int (-1), .int 0, .int 0, .ref w0, .ref w1, .ref w2, .ref w3, .ref w4, .ref w5, .ref w6, .ref w7, .ref w8, .ref w9, .int 0, .int 0, .int 0, .ref w10, .ref w11, .int 0, .ref w12, .ref w13, .ref w14, .ref w15, .ref w16, .ref w17, .ref w18, .ref w19, .ref w20, .int 0, .ref w21, .ref w22, .int 0, .int 0, .int 0])), (b6, .inl (k.1, 900, .inl (upd (upd ft 12 (vp_nar .byte (((y >>> (24 &&& 31))).toInt8.toInt32))) 13 (vp_nar .byte (((y >>> (16 &&& 31))).toInt8.toInt32)))))]) F hiX12 tyX12 tyX12_ok nmX12 0 rfl rfl 10 (by decide) dX12_four_27 (List.mem_of_getElem? (i := 2) rfl) rfl rfl rfl rfl (Nat.le_of_ble_eq_true rfl) rfl rfl ?_
  refine jy_iinc (pc' := 33) (v := 8) (lv' := [(2, .int 8), (0, .ref m0), (1, .int y)]) F 0 dX12_four_30 rfl (by decide) (by decide) rfl rfl ?_
  refine jy_goto (tgt := 3) F dX12_four_33 (by decide) ?_
  refine jy_iload_n (pc' := 4) F 0 dX12_four_3 rfl rfl rfl ?_
  refine jy_if_lt (pc' := 7) (tgt := 36) F dX12_four_4 (by decide) rfl (fun h => absurd h (by decide)) (fun _ => ?_)
  refine jy_aload_n (pc' := 8) F 1 dX12_four_7 rfl rfl rfl ?_
  refine jy_get (pc' := 11) (C := RX12) (T := TX12) (N := 51) (ci := 11) (v := .ref b6) F hiX12 0 rfl rfl 8 (by decide) dX12_four_8 (List.mem_of_getElem? (i := 1) rfl) rfl rfl ?_
  refine jy_aload_n (pc' := 12) F 1 dX12_four_11 rfl rfl rfl ?_
  refine jy_get (pc' := 15) (C := RX12) (T := TX12) (N := 51) (ci := 11) (v := .int 14) F hiX12 0 rfl rfl 10 (by decide) dX12_four_12 (List.mem_of_getElem? (i := 2) rfl) rfl rfl ?_
  refine jy_iload_n (pc' := 16) F 2 dX12_four_15 rfl rfl rfl ?_
  refine jy_iload_n (pc' := 17) F 0 dX12_four_16 rfl rfl rfl ?_
  refine jy_ishr (pc' := 18) (v := (y >>> (8 &&& 31))) F dX12_four_17 rfl rfl ?_
  refine jy_i2b (pc' := 19) (v := (((y >>> (8 &&& 31))).toInt8.toInt32)) F dX12_four_18 rfl rfl ?_
  refine jy_bast (pc' := 20) (g := (upd (upd (upd ft 12 (vp_nar .byte (((y >>> (24 &&& 31))).toInt8.toInt32))) 13 (vp_nar .byte (((y >>> (16 &&& 31))).toInt8.toInt32))) 14 (vp_nar .byte (((y >>> (8 &&& 31))).toInt8.toInt32)))) (ws' := [(m0, .inr (11, [.ref b1, .ref b2, .int 0, .long 0, .long 1, .ref b3, .ref b4, .ref b5, .ref b6, .ref b7, .int 14, .int 0, .int 0, .int 0, .int 0, .int 0, .int (-1), .int (-1), .int 0, .int 0, .ref w0, .ref w1, .ref w2, .ref w3, .ref w4, .ref w5, .ref w6, .ref w7, .ref w8, .ref w9, .int 0, .int 0, .int 0, .ref w10, .ref w11, .int 0, .ref w12, .ref w13, .ref w14, .ref w15, .ref w16, .ref w17, .ref w18, .ref w19, .ref w20, .int 0, .ref w21, .ref w22, .int 0, .int 0, .int 0])), (b6, .inl (k.1, 900, .inl (upd (upd (upd ft 12 (vp_nar .byte (((y >>> (24 &&& 31))).toInt8.toInt32))) 13 (vp_nar .byte (((y >>> (16 &&& 31))).toInt8.toInt32))) 14 (vp_nar .byte (((y >>> (8 &&& 31))).toInt8.toInt32)))))]) F 1 0 rfl rfl dX12_four_19 (vp_in_nI (n := 14) (by omega) (by omega)) rfl rfl rfl ?_
  refine jy_aload_n (pc' := 21) F 1 dX12_four_20 rfl rfl rfl ?_
  refine jy_dup (pc' := 22) F dX12_four_21 rfl rfl ?_
  refine jy_get (pc' := 25) (C := RX12) (T := TX12) (N := 51) (ci := 11) (v := .int 14) F hiX12 0 rfl rfl 10 (by decide) dX12_four_22 (List.mem_of_getElem? (i := 2) rfl) rfl rfl ?_
  refine jy_iconst (pc' := 26) (v := 1) F dX12_four_25 (by decide) rfl ?_
  refine jy_iadd (pc' := 27) (v := 15) F dX12_four_26 (by decide) rfl ?_
  refine jy_put (pc' := 30) (C := RX12) (T := TX12) (N := 51) (ci := 11) (ws' := [(m0, .inr (11, [.ref b1, .ref b2, .int 0, .long 0, .long 1, .ref b3, .ref b4, .ref b5, .ref b6, .ref b7, .int 15, .int 0, .int 0, .int 0, .int 0, .int 0, .int (-1), .int (-1), .int 0, .int 0, .ref w0, .ref w1, .ref w2, .ref w3, .ref w4, .ref w5, .ref w6, .ref w7, .ref w8, .ref w9, .int 0, .int 0, .int 0, .ref w10, .ref w11, .int 0, .ref w12, .ref w13, .ref w14, .ref w15, .ref w16, .ref w17, .ref w18, .ref w19, .ref w20, .int 0, .ref w21, .ref w22, .int 0, .int 0, .int 0])), (b6, .inl (k.1, 900, .inl (upd (upd (upd ft 12 (vp_nar .byte (((y >>> (24 &&& 31))).toInt8.toInt32))) 13 (vp_nar .byte (((y >>> (16 &&& 31))).toInt8.toInt32))) 14 (vp_nar .byte (((y >>> (8 &&& 31))).toInt8.toInt32)))))]) F hiX12 tyX12 tyX12_ok nmX12 0 rfl rfl 10 (by decide) dX12_four_27 (List.mem_of_getElem? (i := 2) rfl) rfl rfl rfl rfl (Nat.le_of_ble_eq_true rfl) rfl rfl ?_
  refine jy_iinc (pc' := 33) (v := 0) (lv' := [(2, .int 0), (0, .ref m0), (1, .int y)]) F 0 dX12_four_30 rfl (by decide) (by decide) rfl rfl ?_
  refine jy_goto (tgt := 3) F dX12_four_33 (by decide) ?_
  refine jy_iload_n (pc' := 4) F 0 dX12_four_3 rfl rfl rfl ?_
  refine jy_if_lt (pc' := 7) (tgt := 36) F dX12_four_4 (by decide) rfl (fun h => absurd h (by decide)) (fun _ => ?_)
  refine jy_aload_n (pc' := 8) F 1 dX12_four_7 rfl rfl rfl ?_
  refine jy_get (pc' := 11) (C := RX12) (T := TX12) (N := 51) (ci := 11) (v := .ref b6) F hiX12 0 rfl rfl 8 (by decide) dX12_four_8 (List.mem_of_getElem? (i := 1) rfl) rfl rfl ?_
  refine jy_aload_n (pc' := 12) F 1 dX12_four_11 rfl rfl rfl ?_
  refine jy_get (pc' := 15) (C := RX12) (T := TX12) (N := 51) (ci := 11) (v := .int 15) F hiX12 0 rfl rfl 10 (by decide) dX12_four_12 (List.mem_of_getElem? (i := 2) rfl) rfl rfl ?_
  refine jy_iload_n (pc' := 16) F 2 dX12_four_15 rfl rfl rfl ?_
  refine jy_iload_n (pc' := 17) F 0 dX12_four_16 rfl rfl rfl ?_
  refine jy_ishr (pc' := 18) (v := (y >>> (0 &&& 31))) F dX12_four_17 rfl rfl ?_
  refine jy_i2b (pc' := 19) (v := (((y >>> (0 &&& 31))).toInt8.toInt32)) F dX12_four_18 rfl rfl ?_
  refine jy_bast (pc' := 20) (g := (upd (upd (upd (upd ft 12 (vp_nar .byte (((y >>> (24 &&& 31))).toInt8.toInt32))) 13 (vp_nar .byte (((y >>> (16 &&& 31))).toInt8.toInt32))) 14 (vp_nar .byte (((y >>> (8 &&& 31))).toInt8.toInt32))) 15 (vp_nar .byte (((y >>> (0 &&& 31))).toInt8.toInt32)))) (ws' := [(m0, .inr (11, [.ref b1, .ref b2, .int 0, .long 0, .long 1, .ref b3, .ref b4, .ref b5, .ref b6, .ref b7, .int 15, .int 0, .int 0, .int 0, .int 0, .int 0, .int (-1), .int (-1), .int 0, .int 0, .ref w0, .ref w1, .ref w2, .ref w3, .ref w4, .ref w5, .ref w6, .ref w7, .ref w8, .ref w9, .int 0, .int 0, .int 0, .ref w10, .ref w11, .int 0, .ref w12, .ref w13, .ref w14, .ref w15, .ref w16, .ref w17, .ref w18, .ref w19, .ref w20, .int 0, .ref w21, .ref w22, .int 0, .int 0, .int 0])), (b6, .inl (k.1, 900, .inl (upd (upd (upd (upd ft 12 (vp_nar .byte (((y >>> (24 &&& 31))).toInt8.toInt32))) 13 (vp_nar .byte (((y >>> (16 &&& 31))).toInt8.toInt32))) 14 (vp_nar .byte (((y >>> (8 &&& 31))).toInt8.toInt32))) 15 (vp_nar .byte (((y >>> (0 &&& 31))).toInt8.toInt32)))))]) F 1 0 rfl rfl dX12_four_19 (vp_in_nI (n := 15) (by omega) (by omega)) rfl rfl rfl ?_
  refine jy_aload_n (pc' := 21) F 1 dX12_four_20 rfl rfl rfl ?_
  refine jy_dup (pc' := 22) F dX12_four_21 rfl rfl ?_
  refine jy_get (pc' := 25) (C := RX12) (T := TX12) (N := 51) (ci := 11) (v := .int 15) F hiX12 0 rfl rfl 10 (by decide) dX12_four_22 (List.mem_of_getElem? (i := 2) rfl) rfl rfl ?_
  refine jy_iconst (pc' := 26) (v := 1) F dX12_four_25 (by decide) rfl ?_
  refine jy_iadd (pc' := 27) (v := 16) F dX12_four_26 (by decide) rfl ?_
  refine jy_put (pc' := 30) (C := RX12) (T := TX12) (N := 51) (ci := 11) (ws' := [(m0, .inr (11, [.ref b1, .ref b2, .int 0, .long 0, .long 1, .ref b3, .ref b4, .ref b5, .ref b6, .ref b7, .int 16, .int 0, .int 0, .int 0, .int 0, .int 0, .int (-1), .int (-1), .int 0, .int 0, .ref w0, .ref w1, .ref w2, .ref w3, .ref w4, .ref w5, .ref w6, .ref w7, .ref w8, .ref w9, .int 0, .int 0, .int 0, .ref w10, .ref w11, .int 0, .ref w12, .ref w13, .ref w14, .ref w15, .ref w16, .ref w17, .ref w18, .ref w19, .ref w20, .int 0, .ref w21, .ref w22, .int 0, .int 0, .int 0])), (b6, .inl (k.1, 900, .inl (upd (upd (upd (upd ft 12 (vp_nar .byte (((y >>> (24 &&& 31))).toInt8.toInt32))) 13 (vp_nar .byte (((y >>> (16 &&& 31))).toInt8.toInt32))) 14 (vp_nar .byte (((y >>> (8 &&& 31))).toInt8.toInt32))) 15 (vp_nar .byte (((y >>> (0 &&& 31))).toInt8.toInt32)))))]) F hiX12 tyX12 tyX12_ok nmX12 0 rfl rfl 10 (by decide) dX12_four_27 (List.mem_of_getElem? (i := 2) rfl) rfl rfl rfl rfl (Nat.le_of_ble_eq_true rfl) rfl rfl ?_
  refine jy_iinc (pc' := 33) (v := (-8)) (lv' := [(2, .int (-8)), (0, .ref m0), (1, .int y)]) F 0 dX12_four_30 rfl (by decide) (by decide) rfl rfl ?_
  refine jy_goto (tgt := 3) F dX12_four_33 (by decide) ?_
  refine jy_iload_n (pc' := 4) F 0 dX12_four_3 rfl rfl rfl ?_
  refine jy_if_lt (pc' := 7) (tgt := 36) F dX12_four_4 (by decide) rfl (fun _ => ?_) (fun h => absurd h (by decide))
  refine jy_widen (cells' := 0) (slots' := 0) (by decide) (by decide) ?_
  exact jy_vret F hr hlk ((upd (upd (upd (upd ft 12 (vp_nar .byte (((y >>> (24 &&& 31))).toInt8.toInt32))) 13 (vp_nar .byte (((y >>> (16 &&& 31))).toInt8.toInt32))) 14 (vp_nar .byte (((y >>> (8 &&& 31))).toInt8.toInt32))) 15 (vp_nar .byte (((y >>> (0 &&& 31))).toInt8.toInt32)))) (trivial) [0, 1] rfl (by decide) dX12_four_36
def ws_c_X12_four_16 : List Cond := .code yX12_four cX12_four 3 none :: ([.fieldLink "NestedCheckerModel" 30 "NestedCheckerModel" "tape" "[B", .fieldLink "NestedCheckerModel" 147 "NestedCheckerModel" "taped" "I"] ++ wsX120)
set_option maxHeartbeats 4000000 in
set_option maxRecDepth 100000 in
theorem c_X12_four_16 (l : Launch) (D : va_G) (k : jK) (m0 : Nat) (b1 : Nat) (b2 : Nat) (b3 : Nat) (b4 : Nat) (b5 : Nat) (b6 : Nat) (b7 : Nat) (w0 : Nat) (w1 : Nat) (w2 : Nat) (w3 : Nat) (w4 : Nat) (w5 : Nat) (w6 : Nat) (w7 : Nat) (w8 : Nat) (w9 : Nat) (w10 : Nat) (w11 : Nat) (w12 : Nat) (w13 : Nat) (w14 : Nat) (w15 : Nat) (w16 : Nat) (w17 : Nat) (w18 : Nat) (w19 : Nat) (w20 : Nat) (w21 : Nat) (w22 : Nat) (ft : Nat → Int32) (y : Int32) (sz : Nat)  : Met l yX12_four ws_c_X12_four_16 ({ frames := 0, cells := 0, slots := 0, locals := 0 }) (jy_P [.ref m0, .int y] D vwCl (jT k) jW [(m0, .inr (11, [.ref b1, .ref b2, .int 0, .long 0, .long 1, .ref b3, .ref b4, .ref b5, .ref b6, .ref b7, .int 16, .int 0, .int 0, .int 0, .int 0, .int 0, .int (-1), .int (-1), .int 0, .int 0, .ref w0, .ref w1, .ref w2, .ref w3, .ref w4, .ref w5, .ref w6, .ref w7, .ref w8, .ref w9, .int 0, .int 0, .int 0, .ref w10, .ref w11, .int 0, .ref w12, .ref w13, .ref w14, .ref w15, .ref w16, .ref w17, .ref w18, .ref w19, .ref w20, .int 0, .ref w21, .ref w22, .int 0, .int 0, .int 0])), (b6, .inl (k.1, 900, .inl ft))] sz) (va_Qv (fun (u : (Nat → Int32)) => True) (jy_B D vwCl (va_A [(m0, .inr (11, [.ref b1, .ref b2, .int 0, .long 0, .long 1, .ref b3, .ref b4, .ref b5, .ref b6, .ref b7, .int 16, .int 0, .int 0, .int 0, .int 0, .int 0, .int (-1), .int (-1), .int 0, .int 0, .ref w0, .ref w1, .ref w2, .ref w3, .ref w4, .ref w5, .ref w6, .ref w7, .ref w8, .ref w9, .int 0, .int 0, .int 0, .ref w10, .ref w11, .int 0, .ref w12, .ref w13, .ref w14, .ref w15, .ref w16, .ref w17, .ref w18, .ref w19, .ref w20, .int 0, .ref w21, .ref w22, .int 0, .int 0, .int 0])), (b6, .inl (k.1, 900, .inl ft))] sz) (fun (u : (Nat → Int32)) => [(m0, .inr (11, [.ref b1, .ref b2, .int 0, .long 0, .long 1, .ref b3, .ref b4, .ref b5, .ref b6, .ref b7, .int 20, .int 0, .int 0, .int 0, .int 0, .int 0, .int (-1), .int (-1), .int 0, .int 0, .ref w0, .ref w1, .ref w2, .ref w3, .ref w4, .ref w5, .ref w6, .ref w7, .ref w8, .ref w9, .int 0, .int 0, .int 0, .ref w10, .ref w11, .int 0, .ref w12, .ref w13, .ref w14, .ref w15, .ref w16, .ref w17, .ref w18, .ref w19, .ref w20, .int 0, .ref w21, .ref w22, .int 0, .int 0, .int 0])), (b6, .inl (k.1, 900, .inl u))])) (va_A [(m0, .inr (11, [.ref b1, .ref b2, .int 0, .long 0, .long 1, .ref b3, .ref b4, .ref b5, .ref b6, .ref b7, .int 16, .int 0, .int 0, .int 0, .int 0, .int 0, .int (-1), .int (-1), .int 0, .int 0, .ref w0, .ref w1, .ref w2, .ref w3, .ref w4, .ref w5, .ref w6, .ref w7, .ref w8, .ref w9, .int 0, .int 0, .int 0, .ref w10, .ref w11, .int 0, .ref w12, .ref w13, .ref w14, .ref w15, .ref w16, .ref w17, .ref w18, .ref w19, .ref w20, .int 0, .ref w21, .ref w22, .int 0, .int 0, .int 0])), (b6, .inl (k.1, 900, .inl ft))] sz)) 0 0 (va_A [(m0, .inr (11, [.ref b1, .ref b2, .int 0, .long 0, .long 1, .ref b3, .ref b4, .ref b5, .ref b6, .ref b7, .int 16, .int 0, .int 0, .int 0, .int 0, .int 0, .int (-1), .int (-1), .int 0, .int 0, .ref w0, .ref w1, .ref w2, .ref w3, .ref w4, .ref w5, .ref w6, .ref w7, .ref w8, .ref w9, .int 0, .int 0, .int 0, .ref w10, .ref w11, .int 0, .ref w12, .ref w13, .ref w14, .ref w15, .ref w16, .ref w17, .ref w18, .ref w19, .ref w20, .int 0, .ref w21, .ref w22, .int 0, .int 0, .int 0])), (b6, .inl (k.1, 900, .inl ft))] sz) := by
  refine jy_met (cc := cX12_four) (maxL := 3) (ret := none) (lv := [(0, .ref m0), (1, .int y)]) (by decide) rfl (Nat.le_of_ble_eq_true rfl) rfl ?_
  intro p e s m below meth c F hr hlk hnm hN hA
  have hiX12 : ∀ w ∈ u_ws RX12 TX12 51, w ∈ ws_c_X12_four_16 := fun w hw => List.mem_cons_of_mem _ (List.mem_append_right _ hw)
  refine jy_bipush (pc' := 2) (v := 24) F dX12_four_0 (by decide) rfl ?_
  refine jy_istore_n (pc' := 3) (lv' := [(2, .int 24), (0, .ref m0), (1, .int y)]) F dX12_four_2 rfl (by decide) rfl rfl ?_
  refine jy_iload_n (pc' := 4) F 0 dX12_four_3 rfl rfl rfl ?_
  refine jy_if_lt (pc' := 7) (tgt := 36) F dX12_four_4 (by decide) rfl (fun h => absurd h (by decide)) (fun _ => ?_)
  refine jy_aload_n (pc' := 8) F 1 dX12_four_7 rfl rfl rfl ?_
  refine jy_get (pc' := 11) (C := RX12) (T := TX12) (N := 51) (ci := 11) (v := .ref b6) F hiX12 0 rfl rfl 8 (by decide) dX12_four_8 (List.mem_of_getElem? (i := 1) rfl) rfl rfl ?_
  refine jy_aload_n (pc' := 12) F 1 dX12_four_11 rfl rfl rfl ?_
  refine jy_get (pc' := 15) (C := RX12) (T := TX12) (N := 51) (ci := 11) (v := .int 16) F hiX12 0 rfl rfl 10 (by decide) dX12_four_12 (List.mem_of_getElem? (i := 2) rfl) rfl rfl ?_
  refine jy_iload_n (pc' := 16) F 2 dX12_four_15 rfl rfl rfl ?_
  refine jy_iload_n (pc' := 17) F 0 dX12_four_16 rfl rfl rfl ?_
  refine jy_ishr (pc' := 18) (v := (y >>> (24 &&& 31))) F dX12_four_17 rfl rfl ?_
  refine jy_i2b (pc' := 19) (v := (((y >>> (24 &&& 31))).toInt8.toInt32)) F dX12_four_18 rfl rfl ?_
  refine jy_bast (pc' := 20) (g := (upd ft 16 (vp_nar .byte (((y >>> (24 &&& 31))).toInt8.toInt32)))) (ws' := [(m0, .inr (11, [.ref b1, .ref b2, .int 0, .long 0, .long 1, .ref b3, .ref b4, .ref b5, .ref b6, .ref b7, .int 16, .int 0, .int 0, .int 0, .int 0, .int 0, .int (-1), .int (-1), .int 0, .int 0, .ref w0, .ref w1, .ref w2, .ref w3, .ref w4, .ref w5, .ref w6, .ref w7, .ref w8, .ref w9, .int 0, .int 0, .int 0, .ref w10, .ref w11, .int 0, .ref w12, .ref w13, .ref w14, .ref w15, .ref w16, .ref w17, .ref w18, .ref w19, .ref w20, .int 0, .ref w21, .ref w22, .int 0, .int 0, .int 0])), (b6, .inl (k.1, 900, .inl (upd ft 16 (vp_nar .byte (((y >>> (24 &&& 31))).toInt8.toInt32)))))]) F 1 0 rfl rfl dX12_four_19 (vp_in_nI (n := 16) (by omega) (by omega)) rfl rfl rfl ?_
  refine jy_aload_n (pc' := 21) F 1 dX12_four_20 rfl rfl rfl ?_
  refine jy_dup (pc' := 22) F dX12_four_21 rfl rfl ?_
  refine jy_get (pc' := 25) (C := RX12) (T := TX12) (N := 51) (ci := 11) (v := .int 16) F hiX12 0 rfl rfl 10 (by decide) dX12_four_22 (List.mem_of_getElem? (i := 2) rfl) rfl rfl ?_
  refine jy_iconst (pc' := 26) (v := 1) F dX12_four_25 (by decide) rfl ?_
  refine jy_iadd (pc' := 27) (v := 17) F dX12_four_26 (by decide) rfl ?_
  refine jy_put (pc' := 30) (C := RX12) (T := TX12) (N := 51) (ci := 11) (ws' := [(m0, .inr (11, [.ref b1, .ref b2, .int 0, .long 0, .long 1, .ref b3, .ref b4, .ref b5, .ref b6, .ref b7, .int 17, .int 0, .int 0, .int 0, .int 0, .int 0, .int (-1), .int (-1), .int 0, .int 0, .ref w0, .ref w1, .ref w2, .ref w3, .ref w4, .ref w5, .ref w6, .ref w7, .ref w8, .ref w9, .int 0, .int 0, .int 0, .ref w10, .ref w11, .int 0, .ref w12, .ref w13, .ref w14, .ref w15, .ref w16, .ref w17, .ref w18, .ref w19, .ref w20, .int 0, .ref w21, .ref w22, .int 0, .int 0, .int 0])), (b6, .inl (k.1, 900, .inl (upd ft 16 (vp_nar .byte (((y >>> (24 &&& 31))).toInt8.toInt32)))))]) F hiX12 tyX12 tyX12_ok nmX12 0 rfl rfl 10 (by decide) dX12_four_27 (List.mem_of_getElem? (i := 2) rfl) rfl rfl rfl rfl (Nat.le_of_ble_eq_true rfl) rfl rfl ?_
  refine jy_iinc (pc' := 33) (v := 16) (lv' := [(2, .int 16), (0, .ref m0), (1, .int y)]) F 0 dX12_four_30 rfl (by decide) (by decide) rfl rfl ?_
  refine jy_goto (tgt := 3) F dX12_four_33 (by decide) ?_
  refine jy_iload_n (pc' := 4) F 0 dX12_four_3 rfl rfl rfl ?_
  refine jy_if_lt (pc' := 7) (tgt := 36) F dX12_four_4 (by decide) rfl (fun h => absurd h (by decide)) (fun _ => ?_)
  refine jy_aload_n (pc' := 8) F 1 dX12_four_7 rfl rfl rfl ?_
  refine jy_get (pc' := 11) (C := RX12) (T := TX12) (N := 51) (ci := 11) (v := .ref b6) F hiX12 0 rfl rfl 8 (by decide) dX12_four_8 (List.mem_of_getElem? (i := 1) rfl) rfl rfl ?_
  refine jy_aload_n (pc' := 12) F 1 dX12_four_11 rfl rfl rfl ?_
  refine jy_get (pc' := 15) (C := RX12) (T := TX12) (N := 51) (ci := 11) (v := .int 17) F hiX12 0 rfl rfl 10 (by decide) dX12_four_12 (List.mem_of_getElem? (i := 2) rfl) rfl rfl ?_
  refine jy_iload_n (pc' := 16) F 2 dX12_four_15 rfl rfl rfl ?_
  refine jy_iload_n (pc' := 17) F 0 dX12_four_16 rfl rfl rfl ?_
  refine jy_ishr (pc' := 18) (v := (y >>> (16 &&& 31))) F dX12_four_17 rfl rfl ?_
  refine jy_i2b (pc' := 19) (v := (((y >>> (16 &&& 31))).toInt8.toInt32)) F dX12_four_18 rfl rfl ?_
  refine jy_bast (pc' := 20) (g := (upd (upd ft 16 (vp_nar .byte (((y >>> (24 &&& 31))).toInt8.toInt32))) 17 (vp_nar .byte (((y >>> (16 &&& 31))).toInt8.toInt32)))) (ws' := [(m0, .inr (11, [.ref b1, .ref b2, .int 0, .long 0, .long 1, .ref b3, .ref b4, .ref b5, .ref b6, .ref b7, .int 17, .int 0, .int 0, .int 0, .int 0, .int 0, .int (-1), .int (-1), .int 0, .int 0, .ref w0, .ref w1, .ref w2, .ref w3, .ref w4, .ref w5, .ref w6, .ref w7, .ref w8, .ref w9, .int 0, .int 0, .int 0, .ref w10, .ref w11, .int 0, .ref w12, .ref w13, .ref w14, .ref w15, .ref w16, .ref w17, .ref w18, .ref w19, .ref w20, .int 0, .ref w21, .ref w22, .int 0, .int 0, .int 0])), (b6, .inl (k.1, 900, .inl (upd (upd ft 16 (vp_nar .byte (((y >>> (24 &&& 31))).toInt8.toInt32))) 17 (vp_nar .byte (((y >>> (16 &&& 31))).toInt8.toInt32)))))]) F 1 0 rfl rfl dX12_four_19 (vp_in_nI (n := 17) (by omega) (by omega)) rfl rfl rfl ?_
  refine jy_aload_n (pc' := 21) F 1 dX12_four_20 rfl rfl rfl ?_
  refine jy_dup (pc' := 22) F dX12_four_21 rfl rfl ?_
  refine jy_get (pc' := 25) (C := RX12) (T := TX12) (N := 51) (ci := 11) (v := .int 17) F hiX12 0 rfl rfl 10 (by decide) dX12_four_22 (List.mem_of_getElem? (i := 2) rfl) rfl rfl ?_
  refine jy_iconst (pc' := 26) (v := 1) F dX12_four_25 (by decide) rfl ?_
  refine jy_iadd (pc' := 27) (v := 18) F dX12_four_26 (by decide) rfl ?_
  refine jy_put (pc' := 30) (C := RX12) (T := TX12) (N := 51) (ci := 11) (ws' := [(m0, .inr (11, [.ref b1, .ref b2, .int 0, .long 0, .long 1, .ref b3, .ref b4, .ref b5, .ref b6, .ref b7, .int 18, .int 0, .int 0, .int 0, .int 0, .int 0, .int (-1), .int (-1), .int 0, .int 0, .ref w0, .ref w1, .ref w2, .ref w3, .ref w4, .ref w5, .ref w6, .ref w7, .ref w8, .ref w9, .int 0, .int 0, .int 0, .ref w10, .ref w11, .int 0, .ref w12, .ref w13, .ref w14, .ref w15, .ref w16, .ref w17, .ref w18, .ref w19, .ref w20, .int 0, .ref w21, .ref w22, .int 0, .int 0, .int 0])), (b6, .inl (k.1, 900, .inl (upd (upd ft 16 (vp_nar .byte (((y >>> (24 &&& 31))).toInt8.toInt32))) 17 (vp_nar .byte (((y >>> (16 &&& 31))).toInt8.toInt32)))))]) F hiX12 tyX12 tyX12_ok nmX12 0 rfl rfl 10 (by decide) dX12_four_27 (List.mem_of_getElem? (i := 2) rfl) rfl rfl rfl rfl (Nat.le_of_ble_eq_true rfl) rfl rfl ?_
  refine jy_iinc (pc' := 33) (v := 8) (lv' := [(2, .int 8), (0, .ref m0), (1, .int y)]) F 0 dX12_four_30 rfl (by decide) (by decide) rfl rfl ?_
  refine jy_goto (tgt := 3) F dX12_four_33 (by decide) ?_
  refine jy_iload_n (pc' := 4) F 0 dX12_four_3 rfl rfl rfl ?_
  refine jy_if_lt (pc' := 7) (tgt := 36) F dX12_four_4 (by decide) rfl (fun h => absurd h (by decide)) (fun _ => ?_)
  refine jy_aload_n (pc' := 8) F 1 dX12_four_7 rfl rfl rfl ?_
  refine jy_get (pc' := 11) (C := RX12) (T := TX12) (N := 51) (ci := 11) (v := .ref b6) F hiX12 0 rfl rfl 8 (by decide) dX12_four_8 (List.mem_of_getElem? (i := 1) rfl) rfl rfl ?_
  refine jy_aload_n (pc' := 12) F 1 dX12_four_11 rfl rfl rfl ?_
  refine jy_get (pc' := 15) (C := RX12) (T := TX12) (N := 51) (ci := 11) (v := .int 18) F hiX12 0 rfl rfl 10 (by decide) dX12_four_12 (List.mem_of_getElem? (i := 2) rfl) rfl rfl ?_
  refine jy_iload_n (pc' := 16) F 2 dX12_four_15 rfl rfl rfl ?_
  refine jy_iload_n (pc' := 17) F 0 dX12_four_16 rfl rfl rfl ?_
  refine jy_ishr (pc' := 18) (v := (y >>> (8 &&& 31))) F dX12_four_17 rfl rfl ?_
  refine jy_i2b (pc' := 19) (v := (((y >>> (8 &&& 31))).toInt8.toInt32)) F dX12_four_18 rfl rfl ?_
  refine jy_bast (pc' := 20) (g := (upd (upd (upd ft 16 (vp_nar .byte (((y >>> (24 &&& 31))).toInt8.toInt32))) 17 (vp_nar .byte (((y >>> (16 &&& 31))).toInt8.toInt32))) 18 (vp_nar .byte (((y >>> (8 &&& 31))).toInt8.toInt32)))) (ws' := [(m0, .inr (11, [.ref b1, .ref b2, .int 0, .long 0, .long 1, .ref b3, .ref b4, .ref b5, .ref b6, .ref b7, .int 18, .int 0, .int 0, .int 0, .int 0, .int 0, .int (-1), .int (-1), .int 0, .int 0, .ref w0, .ref w1, .ref w2, .ref w3, .ref w4, .ref w5, .ref w6, .ref w7, .ref w8, .ref w9, .int 0, .int 0, .int 0, .ref w10, .ref w11, .int 0, .ref w12, .ref w13, .ref w14, .ref w15, .ref w16, .ref w17, .ref w18, .ref w19, .ref w20, .int 0, .ref w21, .ref w22, .int 0, .int 0, .int 0])), (b6, .inl (k.1, 900, .inl (upd (upd (upd ft 16 (vp_nar .byte (((y >>> (24 &&& 31))).toInt8.toInt32))) 17 (vp_nar .byte (((y >>> (16 &&& 31))).toInt8.toInt32))) 18 (vp_nar .byte (((y >>> (8 &&& 31))).toInt8.toInt32)))))]) F 1 0 rfl rfl dX12_four_19 (vp_in_nI (n := 18) (by omega) (by omega)) rfl rfl rfl ?_
  refine jy_aload_n (pc' := 21) F 1 dX12_four_20 rfl rfl rfl ?_
  refine jy_dup (pc' := 22) F dX12_four_21 rfl rfl ?_
  refine jy_get (pc' := 25) (C := RX12) (T := TX12) (N := 51) (ci := 11) (v := .int 18) F hiX12 0 rfl rfl 10 (by decide) dX12_four_22 (List.mem_of_getElem? (i := 2) rfl) rfl rfl ?_
  refine jy_iconst (pc' := 26) (v := 1) F dX12_four_25 (by decide) rfl ?_
  refine jy_iadd (pc' := 27) (v := 19) F dX12_four_26 (by decide) rfl ?_
  refine jy_put (pc' := 30) (C := RX12) (T := TX12) (N := 51) (ci := 11) (ws' := [(m0, .inr (11, [.ref b1, .ref b2, .int 0, .long 0, .long 1, .ref b3, .ref b4, .ref b5, .ref b6, .ref b7, .int 19, .int 0, .int 0, .int 0, .int 0, .int 0, .int (-1), .int (-1), .int 0, .int 0, .ref w0, .ref w1, .ref w2, .ref w3, .ref w4, .ref w5, .ref w6, .ref w7, .ref w8, .ref w9, .int 0, .int 0, .int 0, .ref w10, .ref w11, .int 0, .ref w12, .ref w13, .ref w14, .ref w15, .ref w16, .ref w17, .ref w18, .ref w19, .ref w20, .int 0, .ref w21, .ref w22, .int 0, .int 0, .int 0])), (b6, .inl (k.1, 900, .inl (upd (upd (upd ft 16 (vp_nar .byte (((y >>> (24 &&& 31))).toInt8.toInt32))) 17 (vp_nar .byte (((y >>> (16 &&& 31))).toInt8.toInt32))) 18 (vp_nar .byte (((y >>> (8 &&& 31))).toInt8.toInt32)))))]) F hiX12 tyX12 tyX12_ok nmX12 0 rfl rfl 10 (by decide) dX12_four_27 (List.mem_of_getElem? (i := 2) rfl) rfl rfl rfl rfl (Nat.le_of_ble_eq_true rfl) rfl rfl ?_
  refine jy_iinc (pc' := 33) (v := 0) (lv' := [(2, .int 0), (0, .ref m0), (1, .int y)]) F 0 dX12_four_30 rfl (by decide) (by decide) rfl rfl ?_
  refine jy_goto (tgt := 3) F dX12_four_33 (by decide) ?_
  refine jy_iload_n (pc' := 4) F 0 dX12_four_3 rfl rfl rfl ?_
  refine jy_if_lt (pc' := 7) (tgt := 36) F dX12_four_4 (by decide) rfl (fun h => absurd h (by decide)) (fun _ => ?_)
  refine jy_aload_n (pc' := 8) F 1 dX12_four_7 rfl rfl rfl ?_
  refine jy_get (pc' := 11) (C := RX12) (T := TX12) (N := 51) (ci := 11) (v := .ref b6) F hiX12 0 rfl rfl 8 (by decide) dX12_four_8 (List.mem_of_getElem? (i := 1) rfl) rfl rfl ?_
  refine jy_aload_n (pc' := 12) F 1 dX12_four_11 rfl rfl rfl ?_
  refine jy_get (pc' := 15) (C := RX12) (T := TX12) (N := 51) (ci := 11) (v := .int 19) F hiX12 0 rfl rfl 10 (by decide) dX12_four_12 (List.mem_of_getElem? (i := 2) rfl) rfl rfl ?_
  refine jy_iload_n (pc' := 16) F 2 dX12_four_15 rfl rfl rfl ?_
  refine jy_iload_n (pc' := 17) F 0 dX12_four_16 rfl rfl rfl ?_
  refine jy_ishr (pc' := 18) (v := (y >>> (0 &&& 31))) F dX12_four_17 rfl rfl ?_
  refine jy_i2b (pc' := 19) (v := (((y >>> (0 &&& 31))).toInt8.toInt32)) F dX12_four_18 rfl rfl ?_
  refine jy_bast (pc' := 20) (g := (upd (upd (upd (upd ft 16 (vp_nar .byte (((y >>> (24 &&& 31))).toInt8.toInt32))) 17 (vp_nar .byte (((y >>> (16 &&& 31))).toInt8.toInt32))) 18 (vp_nar .byte (((y >>> (8 &&& 31))).toInt8.toInt32))) 19 (vp_nar .byte (((y >>> (0 &&& 31))).toInt8.toInt32)))) (ws' := [(m0, .inr (11, [.ref b1, .ref b2, .int 0, .long 0, .long 1, .ref b3, .ref b4, .ref b5, .ref b6, .ref b7, .int 19, .int 0, .int 0, .int 0, .int 0, .int 0, .int (-1), .int (-1), .int 0, .int 0, .ref w0, .ref w1, .ref w2, .ref w3, .ref w4, .ref w5, .ref w6, .ref w7, .ref w8, .ref w9, .int 0, .int 0, .int 0, .ref w10, .ref w11, .int 0, .ref w12, .ref w13, .ref w14, .ref w15, .ref w16, .ref w17, .ref w18, .ref w19, .ref w20, .int 0, .ref w21, .ref w22, .int 0, .int 0, .int 0])), (b6, .inl (k.1, 900, .inl (upd (upd (upd (upd ft 16 (vp_nar .byte (((y >>> (24 &&& 31))).toInt8.toInt32))) 17 (vp_nar .byte (((y >>> (16 &&& 31))).toInt8.toInt32))) 18 (vp_nar .byte (((y >>> (8 &&& 31))).toInt8.toInt32))) 19 (vp_nar .byte (((y >>> (0 &&& 31))).toInt8.toInt32)))))]) F 1 0 rfl rfl dX12_four_19 (vp_in_nI (n := 19) (by omega) (by omega)) rfl rfl rfl ?_
  refine jy_aload_n (pc' := 21) F 1 dX12_four_20 rfl rfl rfl ?_
  refine jy_dup (pc' := 22) F dX12_four_21 rfl rfl ?_
  refine jy_get (pc' := 25) (C := RX12) (T := TX12) (N := 51) (ci := 11) (v := .int 19) F hiX12 0 rfl rfl 10 (by decide) dX12_four_22 (List.mem_of_getElem? (i := 2) rfl) rfl rfl ?_
  refine jy_iconst (pc' := 26) (v := 1) F dX12_four_25 (by decide) rfl ?_
  refine jy_iadd (pc' := 27) (v := 20) F dX12_four_26 (by decide) rfl ?_
  refine jy_put (pc' := 30) (C := RX12) (T := TX12) (N := 51) (ci := 11) (ws' := [(m0, .inr (11, [.ref b1, .ref b2, .int 0, .long 0, .long 1, .ref b3, .ref b4, .ref b5, .ref b6, .ref b7, .int 20, .int 0, .int 0, .int 0, .int 0, .int 0, .int (-1), .int (-1), .int 0, .int 0, .ref w0, .ref w1, .ref w2, .ref w3, .ref w4, .ref w5, .ref w6, .ref w7, .ref w8, .ref w9, .int 0, .int 0, .int 0, .ref w10, .ref w11, .int 0, .ref w12, .ref w13, .ref w14, .ref w15, .ref w16, .ref w17, .ref w18, .ref w19, .ref w20, .int 0, .ref w21, .ref w22, .int 0, .int 0, .int 0])), (b6, .inl (k.1, 900, .inl (upd (upd (upd (upd ft 16 (vp_nar .byte (((y >>> (24 &&& 31))).toInt8.toInt32))) 17 (vp_nar .byte (((y >>> (16 &&& 31))).toInt8.toInt32))) 18 (vp_nar .byte (((y >>> (8 &&& 31))).toInt8.toInt32))) 19 (vp_nar .byte (((y >>> (0 &&& 31))).toInt8.toInt32)))))]) F hiX12 tyX12 tyX12_ok nmX12 0 rfl rfl 10 (by decide) dX12_four_27 (List.mem_of_getElem? (i := 2) rfl) rfl rfl rfl rfl (Nat.le_of_ble_eq_true rfl) rfl rfl ?_
  refine jy_iinc (pc' := 33) (v := (-8)) (lv' := [(2, .int (-8)), (0, .ref m0), (1, .int y)]) F 0 dX12_four_30 rfl (by decide) (by decide) rfl rfl ?_
  refine jy_goto (tgt := 3) F dX12_four_33 (by decide) ?_
  refine jy_iload_n (pc' := 4) F 0 dX12_four_3 rfl rfl rfl ?_
  refine jy_if_lt (pc' := 7) (tgt := 36) F dX12_four_4 (by decide) rfl (fun _ => ?_) (fun h => absurd h (by decide))
  refine jy_widen (cells' := 0) (slots' := 0) (by decide) (by decide) ?_
  exact jy_vret F hr hlk ((upd (upd (upd (upd ft 16 (vp_nar .byte (((y >>> (24 &&& 31))).toInt8.toInt32))) 17 (vp_nar .byte (((y >>> (16 &&& 31))).toInt8.toInt32))) 18 (vp_nar .byte (((y >>> (8 &&& 31))).toInt8.toInt32))) 19 (vp_nar .byte (((y >>> (0 &&& 31))).toInt8.toInt32)))) (trivial) [0, 1] rfl (by decide) dX12_four_36
abbrev cX12_feed : ByteArray := prog_14_method_19_code
def yX12_feed : MethodName := ⟨RX12, "feed", "(IIIII)I"⟩
theorem hdX12_feed : yX12_feed.cls ≠ "java/lang/invoke/MethodHandle" ∧ yX12_feed.cls ≠ "java/lang/invoke/VarHandle" ∧ (parseMethodDescriptor yX12_feed.desc).map (fun d => d.parameters.length) = some 5 := by decide +kernel
theorem dX12_feed_0 : decode cX12_feed 0 = .ok (.aload_n 0, 1) := by decide +kernel
theorem dX12_feed_1 : decode cX12_feed 1 = .ok (.getfield 147, 3) := by decide +kernel
theorem dX12_feed_4 : decode cX12_feed 4 = .ok (.bipush 20, 2) := by decide +kernel
theorem dX12_feed_6 : decode cX12_feed 6 = .ok (.iadd, 1) := by decide +kernel
theorem dX12_feed_7 : decode cX12_feed 7 = .ok (.sipush 900, 3) := by decide +kernel
theorem dX12_feed_10 : decode cX12_feed 10 = .ok (.if_icmp .le 5, 3) := by decide +kernel
theorem dX12_feed_15 : decode cX12_feed 15 = .ok (.aload_n 0, 1) := by decide +kernel
theorem dX12_feed_16 : decode cX12_feed 16 = .ok (.iload_n 1, 1) := by decide +kernel
theorem dX12_feed_17 : decode cX12_feed 17 = .ok (.invokevirtual 150, 3) := by decide +kernel
theorem dX12_feed_20 : decode cX12_feed 20 = .ok (.aload_n 0, 1) := by decide +kernel
theorem dX12_feed_21 : decode cX12_feed 21 = .ok (.iload_n 2, 1) := by decide +kernel
theorem dX12_feed_22 : decode cX12_feed 22 = .ok (.invokevirtual 150, 3) := by decide +kernel
theorem dX12_feed_25 : decode cX12_feed 25 = .ok (.aload_n 0, 1) := by decide +kernel
theorem dX12_feed_26 : decode cX12_feed 26 = .ok (.iload_n 3, 1) := by decide +kernel
theorem dX12_feed_27 : decode cX12_feed 27 = .ok (.invokevirtual 150, 3) := by decide +kernel
theorem dX12_feed_30 : decode cX12_feed 30 = .ok (.aload_n 0, 1) := by decide +kernel
theorem dX12_feed_31 : decode cX12_feed 31 = .ok (.iload 4, 2) := by decide +kernel
theorem dX12_feed_33 : decode cX12_feed 33 = .ok (.invokevirtual 150, 3) := by decide +kernel
theorem dX12_feed_36 : decode cX12_feed 36 = .ok (.aload_n 0, 1) := by decide +kernel
theorem dX12_feed_37 : decode cX12_feed 37 = .ok (.iload 5, 2) := by decide +kernel
theorem dX12_feed_39 : decode cX12_feed 39 = .ok (.invokevirtual 150, 3) := by decide +kernel
theorem dX12_feed_42 : decode cX12_feed 42 = .ok (.aload_n 0, 1) := by decide +kernel
theorem dX12_feed_43 : decode cX12_feed 43 = .ok (.getfield 147, 3) := by decide +kernel
theorem dX12_feed_46 : decode cX12_feed 46 = .ok (.ireturn, 1) := by decide +kernel
def ws_c_X12_feed : List Cond := .code yX12_feed cX12_feed 6 (some .int) :: ([.fieldLink "NestedCheckerModel" 147 "NestedCheckerModel" "taped" "I", .code ⟨"NestedCheckerModel", "four", "(I)V"⟩ cX12_four 3 none, .fieldLink "NestedCheckerModel" 30 "NestedCheckerModel" "tape" "[B", .initialized "NestedCheckerModel", .instanceMethod ⟨"NestedCheckerModel", "four", "(I)V"⟩, .selects "NestedCheckerModel" ⟨"NestedCheckerModel", "four", "(I)V"⟩ ⟨"NestedCheckerModel", "four", "(I)V"⟩, .methodLink "NestedCheckerModel" 150 ⟨"NestedCheckerModel", "four", "(I)V"⟩] ++ wsX120)
set_option maxRecDepth 20000 in
theorem g_c_X12_feed_c_X12_four_0 : GoodIn ws_c_X12_feed ws_c_X12_four_0 := goodIn_r _ [2, 3, 1, 8, 9, 10, 11, 12, 13, 14, 15, 16, 17, 18, 19, 20, 21, 22, 23, 24, 25, 26, 27, 28, 29, 30, 31, 32, 33, 34, 35, 36, 37, 38, 39, 40, 41, 42, 43, 44, 45, 46, 47, 48, 49, 50, 51, 52, 53, 54, 55, 56, 57, 58] (by decide +kernel) (by decide +kernel)
set_option maxRecDepth 20000 in
theorem g_c_X12_feed_c_X12_four_4 : GoodIn ws_c_X12_feed ws_c_X12_four_4 := goodIn_r _ [2, 3, 1, 8, 9, 10, 11, 12, 13, 14, 15, 16, 17, 18, 19, 20, 21, 22, 23, 24, 25, 26, 27, 28, 29, 30, 31, 32, 33, 34, 35, 36, 37, 38, 39, 40, 41, 42, 43, 44, 45, 46, 47, 48, 49, 50, 51, 52, 53, 54, 55, 56, 57, 58] (by decide +kernel) (by decide +kernel)
set_option maxRecDepth 20000 in
theorem g_c_X12_feed_c_X12_four_8 : GoodIn ws_c_X12_feed ws_c_X12_four_8 := goodIn_r _ [2, 3, 1, 8, 9, 10, 11, 12, 13, 14, 15, 16, 17, 18, 19, 20, 21, 22, 23, 24, 25, 26, 27, 28, 29, 30, 31, 32, 33, 34, 35, 36, 37, 38, 39, 40, 41, 42, 43, 44, 45, 46, 47, 48, 49, 50, 51, 52, 53, 54, 55, 56, 57, 58] (by decide +kernel) (by decide +kernel)
set_option maxRecDepth 20000 in
theorem g_c_X12_feed_c_X12_four_12 : GoodIn ws_c_X12_feed ws_c_X12_four_12 := goodIn_r _ [2, 3, 1, 8, 9, 10, 11, 12, 13, 14, 15, 16, 17, 18, 19, 20, 21, 22, 23, 24, 25, 26, 27, 28, 29, 30, 31, 32, 33, 34, 35, 36, 37, 38, 39, 40, 41, 42, 43, 44, 45, 46, 47, 48, 49, 50, 51, 52, 53, 54, 55, 56, 57, 58] (by decide +kernel) (by decide +kernel)
set_option maxRecDepth 20000 in
theorem g_c_X12_feed_c_X12_four_16 : GoodIn ws_c_X12_feed ws_c_X12_four_16 := goodIn_r _ [2, 3, 1, 8, 9, 10, 11, 12, 13, 14, 15, 16, 17, 18, 19, 20, 21, 22, 23, 24, 25, 26, 27, 28, 29, 30, 31, 32, 33, 34, 35, 36, 37, 38, 39, 40, 41, 42, 43, 44, 45, 46, 47, 48, 49, 50, 51, 52, 53, 54, 55, 56, 57, 58] (by decide +kernel) (by decide +kernel)
set_option maxHeartbeats 4000000 in
set_option maxRecDepth 100000 in
theorem c_X12_feed (l : Launch) (D : va_G) (k : jK) (m0 : Nat) (b1 : Nat) (b2 : Nat) (b3 : Nat) (b4 : Nat) (b5 : Nat) (b6 : Nat) (b7 : Nat) (w0 : Nat) (w1 : Nat) (w2 : Nat) (w3 : Nat) (w4 : Nat) (w5 : Nat) (w6 : Nat) (w7 : Nat) (w8 : Nat) (w9 : Nat) (w10 : Nat) (w11 : Nat) (w12 : Nat) (w13 : Nat) (w14 : Nat) (w15 : Nat) (w16 : Nat) (w17 : Nat) (w18 : Nat) (w19 : Nat) (w20 : Nat) (w21 : Nat) (w22 : Nat) (ft : Nat → Int32) (i1 : Int32) (i2 : Int32) (i3 : Int32) (i4 : Int32) (i5 : Int32) (sz : Nat)  : Met l yX12_feed ws_c_X12_feed ({ frames := 1, cells := 0, slots := 0, locals := 22 }) (jy_P [.ref m0, .int i1, .int i2, .int i3, .int i4, .int i5] D vwCl (jT k) jW [(m0, .inr (11, [.ref b1, .ref b2, .int 0, .long 0, .long 1, .ref b3, .ref b4, .ref b5, .ref b6, .ref b7, .int 0, .int 0, .int 0, .int 0, .int 0, .int 0, .int (-1), .int (-1), .int 0, .int 0, .ref w0, .ref w1, .ref w2, .ref w3, .ref w4, .ref w5, .ref w6, .ref w7, .ref w8, .ref w9, .int 0, .int 0, .int 0, .ref w10, .ref w11, .int 0, .ref w12, .ref w13, .ref w14, .ref w15, .ref w16, .ref w17, .ref w18, .ref w19, .ref w20, .int 0, .ref w21, .ref w22, .int 0, .int 0, .int 0])), (b6, .inl (k.1, 900, .inl ft))] sz) (va_Qi (fun (r : Int32) (u : Unit) => r = 20) (jy_B D vwCl (va_A [(m0, .inr (11, [.ref b1, .ref b2, .int 0, .long 0, .long 1, .ref b3, .ref b4, .ref b5, .ref b6, .ref b7, .int 0, .int 0, .int 0, .int 0, .int 0, .int 0, .int (-1), .int (-1), .int 0, .int 0, .ref w0, .ref w1, .ref w2, .ref w3, .ref w4, .ref w5, .ref w6, .ref w7, .ref w8, .ref w9, .int 0, .int 0, .int 0, .ref w10, .ref w11, .int 0, .ref w12, .ref w13, .ref w14, .ref w15, .ref w16, .ref w17, .ref w18, .ref w19, .ref w20, .int 0, .ref w21, .ref w22, .int 0, .int 0, .int 0])), (b6, .inl (k.1, 900, .inl ft))] sz) (fun (u : Unit) => [])) (va_A [(m0, .inr (11, [.ref b1, .ref b2, .int 0, .long 0, .long 1, .ref b3, .ref b4, .ref b5, .ref b6, .ref b7, .int 0, .int 0, .int 0, .int 0, .int 0, .int 0, .int (-1), .int (-1), .int 0, .int 0, .ref w0, .ref w1, .ref w2, .ref w3, .ref w4, .ref w5, .ref w6, .ref w7, .ref w8, .ref w9, .int 0, .int 0, .int 0, .ref w10, .ref w11, .int 0, .ref w12, .ref w13, .ref w14, .ref w15, .ref w16, .ref w17, .ref w18, .ref w19, .ref w20, .int 0, .ref w21, .ref w22, .int 0, .int 0, .int 0])), (b6, .inl (k.1, 900, .inl ft))] sz)) 0 0 (va_A [(m0, .inr (11, [.ref b1, .ref b2, .int 0, .long 0, .long 1, .ref b3, .ref b4, .ref b5, .ref b6, .ref b7, .int 0, .int 0, .int 0, .int 0, .int 0, .int 0, .int (-1), .int (-1), .int 0, .int 0, .ref w0, .ref w1, .ref w2, .ref w3, .ref w4, .ref w5, .ref w6, .ref w7, .ref w8, .ref w9, .int 0, .int 0, .int 0, .ref w10, .ref w11, .int 0, .ref w12, .ref w13, .ref w14, .ref w15, .ref w16, .ref w17, .ref w18, .ref w19, .ref w20, .int 0, .ref w21, .ref w22, .int 0, .int 0, .int 0])), (b6, .inl (k.1, 900, .inl ft))] sz) := by
  refine jy_met (cc := cX12_feed) (maxL := 6) (ret := (some .int)) (lv := [(0, .ref m0), (1, .int i1), (2, .int i2), (3, .int i3), (4, .int i4), (5, .int i5)]) (by decide) rfl (Nat.le_of_ble_eq_true rfl) rfl ?_
  intro p e s m below meth c F hr hlk hnm hN hA
  have hiX12 : ∀ w ∈ u_ws RX12 TX12 51, w ∈ ws_c_X12_feed := fun w hw => List.mem_cons_of_mem _ (List.mem_append_right _ hw)
  refine jy_aload_n (pc' := 1) F 0 dX12_feed_0 rfl rfl rfl ?_
  refine jy_get (pc' := 4) (C := RX12) (T := TX12) (N := 51) (ci := 11) (v := .int 0) F hiX12 0 rfl rfl 10 (by decide) dX12_feed_1 (List.mem_of_getElem? (i := 1) rfl) rfl rfl ?_
  refine jy_bipush (pc' := 6) (v := 20) F dX12_feed_4 (by decide) rfl ?_
  refine jy_iadd (pc' := 7) (v := 20) F dX12_feed_6 (by decide) rfl ?_
  refine jy_sipush (pc' := 10) (v := 900) F dX12_feed_7 (by decide) rfl ?_
  refine jy_icmp_le (pc' := 13) (tgt := 15) F dX12_feed_10 (by decide) rfl (fun _ => ?_) (fun h => absurd h (by decide))
  refine jy_aload_n (pc' := 16) F 0 dX12_feed_15 rfl rfl rfl ?_
  refine jy_iload_n (pc' := 17) F 1 dX12_feed_16 rfl rfl rfl ?_
  refine jy_callv (pc' := 20) (cells' := 0) (slots' := 0) (wr := []) hA [0, 1] [] rfl rfl (by decide) (by decide) (jy_runV (As := [.int i1]) (b := m0) (q0 := 0) (ci := 11) (C := RX12) (T := TX12) (N := 51) (st := []) F hN (fun sz => c_X12_four_0 l D k m0 b1 b2 b3 b4 b5 b6 b7 w0 w1 w2 w3 w4 w5 w6 w7 w8 w9 w10 w11 w12 w13 w14 w15 w16 w17 w18 w19 w20 w21 w22 ft i1 sz ) (jy_cV F g_c_X12_feed_c_X12_four_0 rfl hdX12_four (List.mem_of_getElem? (i := 4) rfl) (List.mem_of_getElem? (i := 7) rfl) (List.mem_of_getElem? (i := 5) rfl) (List.mem_of_getElem? (i := 6) rfl) rfl rfl ⟨by decide, by decide⟩) rfl rfl [0, 1] rfl (by decide) rfl rfl (Nat.le_of_ble_eq_true rfl) dX12_feed_17 ⟨by decide, by decide⟩) rfl rfl rfl (fun u_2 e_3 => ?_)
  obtain ⟨f_4, rfl⟩ : ∃ z, z = u_2 := ⟨_, rfl⟩
  refine jy_ws (ws' := [(m0, .inr (11, [.ref b1, .ref b2, .int 0, .long 0, .long 1, .ref b3, .ref b4, .ref b5, .ref b6, .ref b7, .int 4, .int 0, .int 0, .int 0, .int 0, .int 0, .int (-1), .int (-1), .int 0, .int 0, .ref w0, .ref w1, .ref w2, .ref w3, .ref w4, .ref w5, .ref w6, .ref w7, .ref w8, .ref w9, .int 0, .int 0, .int 0, .ref w10, .ref w11, .int 0, .ref w12, .ref w13, .ref w14, .ref w15, .ref w16, .ref w17, .ref w18, .ref w19, .ref w20, .int 0, .ref w21, .ref w22, .int 0, .int 0, .int 0])), (b6, .inl (k.1, 900, .inl f_4))]) rfl ?_
  refine jy_aload_n (pc' := 21) F 0 dX12_feed_20 rfl rfl rfl ?_
  refine jy_iload_n (pc' := 22) F 2 dX12_feed_21 rfl rfl rfl ?_
  refine jy_callv (pc' := 25) (cells' := 0) (slots' := 0) (wr := []) hA [0, 1] [] rfl rfl (by decide) (by decide) (jy_runV (As := [.int i2]) (b := m0) (q0 := 0) (ci := 11) (C := RX12) (T := TX12) (N := 51) (st := []) F hN (fun sz => c_X12_four_4 l D k m0 b1 b2 b3 b4 b5 b6 b7 w0 w1 w2 w3 w4 w5 w6 w7 w8 w9 w10 w11 w12 w13 w14 w15 w16 w17 w18 w19 w20 w21 w22 f_4 i2 sz ) (jy_cV F g_c_X12_feed_c_X12_four_4 rfl hdX12_four (List.mem_of_getElem? (i := 4) rfl) (List.mem_of_getElem? (i := 7) rfl) (List.mem_of_getElem? (i := 5) rfl) (List.mem_of_getElem? (i := 6) rfl) rfl rfl ⟨by decide, by decide⟩) rfl rfl [0, 1] rfl (by decide) rfl rfl (Nat.le_of_ble_eq_true rfl) dX12_feed_22 ⟨by decide, by decide⟩) rfl rfl rfl (fun u_5 e_6 => ?_)
  obtain ⟨f_7, rfl⟩ : ∃ z, z = u_5 := ⟨_, rfl⟩
  refine jy_ws (ws' := [(m0, .inr (11, [.ref b1, .ref b2, .int 0, .long 0, .long 1, .ref b3, .ref b4, .ref b5, .ref b6, .ref b7, .int 8, .int 0, .int 0, .int 0, .int 0, .int 0, .int (-1), .int (-1), .int 0, .int 0, .ref w0, .ref w1, .ref w2, .ref w3, .ref w4, .ref w5, .ref w6, .ref w7, .ref w8, .ref w9, .int 0, .int 0, .int 0, .ref w10, .ref w11, .int 0, .ref w12, .ref w13, .ref w14, .ref w15, .ref w16, .ref w17, .ref w18, .ref w19, .ref w20, .int 0, .ref w21, .ref w22, .int 0, .int 0, .int 0])), (b6, .inl (k.1, 900, .inl f_7))]) rfl ?_
  refine jy_aload_n (pc' := 26) F 0 dX12_feed_25 rfl rfl rfl ?_
  refine jy_iload_n (pc' := 27) F 3 dX12_feed_26 rfl rfl rfl ?_
  refine jy_callv (pc' := 30) (cells' := 0) (slots' := 0) (wr := []) hA [0, 1] [] rfl rfl (by decide) (by decide) (jy_runV (As := [.int i3]) (b := m0) (q0 := 0) (ci := 11) (C := RX12) (T := TX12) (N := 51) (st := []) F hN (fun sz => c_X12_four_8 l D k m0 b1 b2 b3 b4 b5 b6 b7 w0 w1 w2 w3 w4 w5 w6 w7 w8 w9 w10 w11 w12 w13 w14 w15 w16 w17 w18 w19 w20 w21 w22 f_7 i3 sz ) (jy_cV F g_c_X12_feed_c_X12_four_8 rfl hdX12_four (List.mem_of_getElem? (i := 4) rfl) (List.mem_of_getElem? (i := 7) rfl) (List.mem_of_getElem? (i := 5) rfl) (List.mem_of_getElem? (i := 6) rfl) rfl rfl ⟨by decide, by decide⟩) rfl rfl [0, 1] rfl (by decide) rfl rfl (Nat.le_of_ble_eq_true rfl) dX12_feed_27 ⟨by decide, by decide⟩) rfl rfl rfl (fun u_8 e_9 => ?_)
  obtain ⟨f_10, rfl⟩ : ∃ z, z = u_8 := ⟨_, rfl⟩
  refine jy_ws (ws' := [(m0, .inr (11, [.ref b1, .ref b2, .int 0, .long 0, .long 1, .ref b3, .ref b4, .ref b5, .ref b6, .ref b7, .int 12, .int 0, .int 0, .int 0, .int 0, .int 0, .int (-1), .int (-1), .int 0, .int 0, .ref w0, .ref w1, .ref w2, .ref w3, .ref w4, .ref w5, .ref w6, .ref w7, .ref w8, .ref w9, .int 0, .int 0, .int 0, .ref w10, .ref w11, .int 0, .ref w12, .ref w13, .ref w14, .ref w15, .ref w16, .ref w17, .ref w18, .ref w19, .ref w20, .int 0, .ref w21, .ref w22, .int 0, .int 0, .int 0])), (b6, .inl (k.1, 900, .inl f_10))]) rfl ?_
  refine jy_aload_n (pc' := 31) F 0 dX12_feed_30 rfl rfl rfl ?_
  refine jy_iload (pc' := 33) F 4 dX12_feed_31 rfl rfl ?_
  refine jy_callv (pc' := 36) (cells' := 0) (slots' := 0) (wr := []) hA [0, 1] [] rfl rfl (by decide) (by decide) (jy_runV (As := [.int i4]) (b := m0) (q0 := 0) (ci := 11) (C := RX12) (T := TX12) (N := 51) (st := []) F hN (fun sz => c_X12_four_12 l D k m0 b1 b2 b3 b4 b5 b6 b7 w0 w1 w2 w3 w4 w5 w6 w7 w8 w9 w10 w11 w12 w13 w14 w15 w16 w17 w18 w19 w20 w21 w22 f_10 i4 sz ) (jy_cV F g_c_X12_feed_c_X12_four_12 rfl hdX12_four (List.mem_of_getElem? (i := 4) rfl) (List.mem_of_getElem? (i := 7) rfl) (List.mem_of_getElem? (i := 5) rfl) (List.mem_of_getElem? (i := 6) rfl) rfl rfl ⟨by decide, by decide⟩) rfl rfl [0, 1] rfl (by decide) rfl rfl (Nat.le_of_ble_eq_true rfl) dX12_feed_33 ⟨by decide, by decide⟩) rfl rfl rfl (fun u_11 e_12 => ?_)
  obtain ⟨f_13, rfl⟩ : ∃ z, z = u_11 := ⟨_, rfl⟩
  refine jy_ws (ws' := [(m0, .inr (11, [.ref b1, .ref b2, .int 0, .long 0, .long 1, .ref b3, .ref b4, .ref b5, .ref b6, .ref b7, .int 16, .int 0, .int 0, .int 0, .int 0, .int 0, .int (-1), .int (-1), .int 0, .int 0, .ref w0, .ref w1, .ref w2, .ref w3, .ref w4, .ref w5, .ref w6, .ref w7, .ref w8, .ref w9, .int 0, .int 0, .int 0, .ref w10, .ref w11, .int 0, .ref w12, .ref w13, .ref w14, .ref w15, .ref w16, .ref w17, .ref w18, .ref w19, .ref w20, .int 0, .ref w21, .ref w22, .int 0, .int 0, .int 0])), (b6, .inl (k.1, 900, .inl f_13))]) rfl ?_
  refine jy_aload_n (pc' := 37) F 0 dX12_feed_36 rfl rfl rfl ?_
  refine jy_iload (pc' := 39) F 5 dX12_feed_37 rfl rfl ?_
  refine jy_callv (pc' := 42) (cells' := 0) (slots' := 0) (wr := []) hA [0, 1] [] rfl rfl (by decide) (by decide) (jy_runV (As := [.int i5]) (b := m0) (q0 := 0) (ci := 11) (C := RX12) (T := TX12) (N := 51) (st := []) F hN (fun sz => c_X12_four_16 l D k m0 b1 b2 b3 b4 b5 b6 b7 w0 w1 w2 w3 w4 w5 w6 w7 w8 w9 w10 w11 w12 w13 w14 w15 w16 w17 w18 w19 w20 w21 w22 f_13 i5 sz ) (jy_cV F g_c_X12_feed_c_X12_four_16 rfl hdX12_four (List.mem_of_getElem? (i := 4) rfl) (List.mem_of_getElem? (i := 7) rfl) (List.mem_of_getElem? (i := 5) rfl) (List.mem_of_getElem? (i := 6) rfl) rfl rfl ⟨by decide, by decide⟩) rfl rfl [0, 1] rfl (by decide) rfl rfl (Nat.le_of_ble_eq_true rfl) dX12_feed_39 ⟨by decide, by decide⟩) rfl rfl rfl (fun u_14 e_15 => ?_)
  obtain ⟨f_16, rfl⟩ : ∃ z, z = u_14 := ⟨_, rfl⟩
  refine jy_ws (ws' := [(m0, .inr (11, [.ref b1, .ref b2, .int 0, .long 0, .long 1, .ref b3, .ref b4, .ref b5, .ref b6, .ref b7, .int 20, .int 0, .int 0, .int 0, .int 0, .int 0, .int (-1), .int (-1), .int 0, .int 0, .ref w0, .ref w1, .ref w2, .ref w3, .ref w4, .ref w5, .ref w6, .ref w7, .ref w8, .ref w9, .int 0, .int 0, .int 0, .ref w10, .ref w11, .int 0, .ref w12, .ref w13, .ref w14, .ref w15, .ref w16, .ref w17, .ref w18, .ref w19, .ref w20, .int 0, .ref w21, .ref w22, .int 0, .int 0, .int 0])), (b6, .inl (k.1, 900, .inl f_16))]) rfl ?_
  refine jy_aload_n (pc' := 43) F 0 dX12_feed_42 rfl rfl rfl ?_
  refine jy_get (pc' := 46) (C := RX12) (T := TX12) (N := 51) (ci := 11) (v := .int 20) F hiX12 0 rfl rfl 10 (by decide) dX12_feed_43 (List.mem_of_getElem? (i := 1) rfl) rfl rfl ?_
  refine jy_widen (cells' := 0) (slots' := 0) (by decide) (by decide) ?_
  exact jy_iret (v := 20) F hr hlk () (rfl) [] rfl (by decide) dX12_feed_46
abbrev cX12_told : ByteArray := prog_14_method_57_code
def yX12_told : MethodName := ⟨RX12, "told", "(I)I"⟩
theorem hdX12_told : yX12_told.cls ≠ "java/lang/invoke/MethodHandle" ∧ yX12_told.cls ≠ "java/lang/invoke/VarHandle" ∧ (parseMethodDescriptor yX12_told.desc).map (fun d => d.parameters.length) = some 1 := by decide +kernel
theorem dX12_told_0 : decode cX12_told 0 = .ok (.iload_n 1, 1) := by decide +kernel
theorem dX12_told_1 : decode cX12_told 1 = .ok (.ifCond .lt 8, 3) := by decide +kernel
theorem dX12_told_4 : decode cX12_told 4 = .ok (.iload_n 1, 1) := by decide +kernel
theorem dX12_told_5 : decode cX12_told 5 = .ok (.iconst 3, 1) := by decide +kernel
theorem dX12_told_6 : decode cX12_told 6 = .ok (.if_icmp .le 11, 3) := by decide +kernel
theorem dX12_told_9 : decode cX12_told 9 = .ok (.aload_n 0, 1) := by decide +kernel
theorem dX12_told_10 : decode cX12_told 10 = .ok (.iconst 1, 1) := by decide +kernel
theorem dX12_told_11 : decode cX12_told 11 = .ok (.invokevirtual 123, 3) := by decide +kernel
theorem dX12_told_14 : decode cX12_told 14 = .ok (.goto 13, 3) := by decide +kernel
theorem dX12_told_17 : decode cX12_told 17 = .ok (.aload_n 0, 1) := by decide +kernel
theorem dX12_told_18 : decode cX12_told 18 = .ok (.aload_n 0, 1) := by decide +kernel
theorem dX12_told_19 : decode cX12_told 19 = .ok (.getfield 7, 3) := by decide +kernel
theorem dX12_told_22 : decode cX12_told 22 = .ok (.iload_n 1, 1) := by decide +kernel
theorem dX12_told_23 : decode cX12_told 23 = .ok (.iaload, 1) := by decide +kernel
theorem dX12_told_24 : decode cX12_told 24 = .ok (.invokevirtual 127, 3) := by decide +kernel
theorem dX12_told_27 : decode cX12_told 27 = .ok (.ireturn, 1) := by decide +kernel
def ws_c_X12_told : List Cond := .code yX12_told cX12_told 2 (some .int) :: ([.code ⟨"NestedCheckerModel", "refuse", "(I)I"⟩ cX12_refuse 2 (some .int), .fieldLink "NestedCheckerModel" 117 "NestedCheckerModel" "status" "I", .initialized "NestedCheckerModel", .instanceMethod ⟨"NestedCheckerModel", "refuse", "(I)I"⟩, .selects "NestedCheckerModel" ⟨"NestedCheckerModel", "refuse", "(I)I"⟩ ⟨"NestedCheckerModel", "refuse", "(I)I"⟩, .methodLink "NestedCheckerModel" 123 ⟨"NestedCheckerModel", "refuse", "(I)I"⟩, .fieldLink "NestedCheckerModel" 7 "NestedCheckerModel" "at" "[I", .code ⟨"NestedCheckerModel", "gives", "(I)I"⟩ cX12_gives 2 (some .int), .instanceMethod ⟨"NestedCheckerModel", "gives", "(I)I"⟩, .selects "NestedCheckerModel" ⟨"NestedCheckerModel", "gives", "(I)I"⟩ ⟨"NestedCheckerModel", "gives", "(I)I"⟩, .methodLink "NestedCheckerModel" 127 ⟨"NestedCheckerModel", "gives", "(I)I"⟩] ++ wsX120)
set_option maxRecDepth 20000 in
theorem g_c_X12_told_c_X12_refuse : GoodIn ws_c_X12_told ws_c_X12_refuse := goodIn_r _ [1, 2, 12, 13, 14, 15, 16, 17, 18, 19, 20, 21, 22, 23, 24, 25, 26, 27, 28, 29, 30, 31, 32, 33, 34, 35, 36, 37, 38, 39, 40, 41, 42, 43, 44, 45, 46, 47, 48, 49, 50, 51, 52, 53, 54, 55, 56, 57, 58, 59, 60, 61, 62] (by decide +kernel) (by decide +kernel)
set_option maxRecDepth 20000 in
theorem g_c_X12_told_c_X12_gives : GoodIn ws_c_X12_told ws_c_X12_gives := goodIn_r _ [8, 2, 12, 13, 14, 15, 16, 17, 18, 19, 20, 21, 22, 23, 24, 25, 26, 27, 28, 29, 30, 31, 32, 33, 34, 35, 36, 37, 38, 39, 40, 41, 42, 43, 44, 45, 46, 47, 48, 49, 50, 51, 52, 53, 54, 55, 56, 57, 58, 59, 60, 61, 62] (by decide +kernel) (by decide +kernel)
set_option maxHeartbeats 4000000 in
set_option maxRecDepth 100000 in
theorem c_X12_told (l : Launch) (D : va_G) (k : jK) (m0 : Nat) (b1 : Nat) (b2 : Nat) (b3 : Nat) (b4 : Nat) (b5 : Nat) (b6 : Nat) (b7 : Nat) (w0 : Nat) (w1 : Nat) (w2 : Nat) (w3 : Nat) (w4 : Nat) (w5 : Nat) (w6 : Nat) (w7 : Nat) (w8 : Nat) (w9 : Nat) (w10 : Nat) (w11 : Nat) (w12 : Nat) (w13 : Nat) (w14 : Nat) (w15 : Nat) (w16 : Nat) (w17 : Nat) (w18 : Nat) (w19 : Nat) (w20 : Nat) (w21 : Nat) (w22 : Nat) (fa : Nat → Int32) (i1 : Int32) (sz : Nat) (ha : fa 4 = -1 ∧ ∀ j, j ≠ 4 → fa j = 0) : Met l yX12_told ws_c_X12_told ({ frames := 1, cells := 0, slots := 0, locals := 21 }) (jy_P [.ref m0, .int i1] D vwCl (jT k) jW [(m0, .inr (11, [.ref b1, .ref b2, .int 0, .long 0, .long 1, .ref b3, .ref b4, .ref b5, .ref b6, .ref b7, .int 0, .int 0, .int 0, .int 0, .int 0, .int 0, .int (-1), .int (-1), .int 0, .int 0, .ref w0, .ref w1, .ref w2, .ref w3, .ref w4, .ref w5, .ref w6, .ref w7, .ref w8, .ref w9, .int 0, .int 0, .int 0, .ref w10, .ref w11, .int 0, .ref w12, .ref w13, .ref w14, .ref w15, .ref w16, .ref w17, .ref w18, .ref w19, .ref w20, .int 0, .ref w21, .ref w22, .int 0, .int 0, .int 0])), (b1, .inl (k.2.1, 1360, .inl fa))] sz) (va_Qi (fun (r : Int32) (u : Unit) => (r = 0 ∧ (i1 = 0 ∨ i1 = 1 ∨ i1 = 2 ∨ i1 = 3)) ∨ (r = -1 ∧ ¬ (i1 = 0 ∨ i1 = 1 ∨ i1 = 2 ∨ i1 = 3))) (jy_B D vwCl (va_A [(m0, .inr (11, [.ref b1, .ref b2, .int 0, .long 0, .long 1, .ref b3, .ref b4, .ref b5, .ref b6, .ref b7, .int 0, .int 0, .int 0, .int 0, .int 0, .int 0, .int (-1), .int (-1), .int 0, .int 0, .ref w0, .ref w1, .ref w2, .ref w3, .ref w4, .ref w5, .ref w6, .ref w7, .ref w8, .ref w9, .int 0, .int 0, .int 0, .ref w10, .ref w11, .int 0, .ref w12, .ref w13, .ref w14, .ref w15, .ref w16, .ref w17, .ref w18, .ref w19, .ref w20, .int 0, .ref w21, .ref w22, .int 0, .int 0, .int 0])), (b1, .inl (k.2.1, 1360, .inl fa))] sz) (fun (u : Unit) => [])) (va_A [(m0, .inr (11, [.ref b1, .ref b2, .int 0, .long 0, .long 1, .ref b3, .ref b4, .ref b5, .ref b6, .ref b7, .int 0, .int 0, .int 0, .int 0, .int 0, .int 0, .int (-1), .int (-1), .int 0, .int 0, .ref w0, .ref w1, .ref w2, .ref w3, .ref w4, .ref w5, .ref w6, .ref w7, .ref w8, .ref w9, .int 0, .int 0, .int 0, .ref w10, .ref w11, .int 0, .ref w12, .ref w13, .ref w14, .ref w15, .ref w16, .ref w17, .ref w18, .ref w19, .ref w20, .int 0, .ref w21, .ref w22, .int 0, .int 0, .int 0])), (b1, .inl (k.2.1, 1360, .inl fa))] sz)) 0 0 (va_A [(m0, .inr (11, [.ref b1, .ref b2, .int 0, .long 0, .long 1, .ref b3, .ref b4, .ref b5, .ref b6, .ref b7, .int 0, .int 0, .int 0, .int 0, .int 0, .int 0, .int (-1), .int (-1), .int 0, .int 0, .ref w0, .ref w1, .ref w2, .ref w3, .ref w4, .ref w5, .ref w6, .ref w7, .ref w8, .ref w9, .int 0, .int 0, .int 0, .ref w10, .ref w11, .int 0, .ref w12, .ref w13, .ref w14, .ref w15, .ref w16, .ref w17, .ref w18, .ref w19, .ref w20, .int 0, .ref w21, .ref w22, .int 0, .int 0, .int 0])), (b1, .inl (k.2.1, 1360, .inl fa))] sz) := by
  refine jy_met (cc := cX12_told) (maxL := 2) (ret := (some .int)) (lv := [(0, .ref m0), (1, .int i1)]) (by decide) rfl (Nat.le_of_ble_eq_true rfl) rfl ?_
  intro p e s m below meth c F hr hlk hnm hN hA
  have hiX12 : ∀ w ∈ u_ws RX12 TX12 51, w ∈ ws_c_X12_told := fun w hw => List.mem_cons_of_mem _ (List.mem_append_right _ hw)
  refine jy_iload_n (pc' := 1) F 1 dX12_told_0 rfl rfl rfl ?_
  refine jy_if_lt (pc' := 4) (tgt := 9) F dX12_told_1 (by decide) rfl (fun h_1 => ?_) (fun h_1 => ?_)
  · refine jy_aload_n (pc' := 10) F 0 dX12_told_9 rfl rfl rfl ?_
    refine jy_iconst (pc' := 11) (v := 1) F dX12_told_10 (by decide) rfl ?_
    refine jy_calli (pc' := 14) (cells' := 0) (slots' := 0) (wr := [(b1, .inl (k.2.1, 1360, .inl fa))]) hA [0] [1] rfl rfl (by decide) (by decide) (jy_runV (As := [.int 1]) (b := m0) (q0 := 0) (ci := 11) (C := RX12) (T := TX12) (N := 51) (st := []) F hN (fun sz => c_X12_refuse l D k m0 0 (.ref b1) (.ref b2) (.long 0) (.long 1) (.ref b3) (.ref b4) (.ref b5) (.ref b6) (.ref b7) (.int 0) (.int 0) (.int 0) (.int 0) (.int 0) (.int 0) (.int (-1)) (.int (-1)) (.int 0) (.int 0) (.ref w0) (.ref w1) (.ref w2) (.ref w3) (.ref w4) (.ref w5) (.ref w6) (.ref w7) (.ref w8) (.ref w9) (.int 0) (.int 0) (.int 0) (.ref w10) (.ref w11) (.int 0) (.ref w12) (.ref w13) (.ref w14) (.ref w15) (.ref w16) (.ref w17) (.ref w18) (.ref w19) (.ref w20) (.int 0) (.ref w21) (.ref w22) (.int 0) (.int 0) (.int 0) 1 sz ) (jy_cV F g_c_X12_told_c_X12_refuse rfl hdX12_refuse (List.mem_of_getElem? (i := 3) rfl) (List.mem_of_getElem? (i := 6) rfl) (List.mem_of_getElem? (i := 4) rfl) (List.mem_of_getElem? (i := 5) rfl) rfl rfl ⟨by decide, by decide⟩) rfl rfl [0] rfl (by decide) rfl rfl (Nat.le_of_ble_eq_true rfl) dX12_told_11 ⟨by decide, by decide⟩) rfl rfl rfl (fun r_4 u_2 e_3 => ?_)
    subst e_3
    refine jy_goto (tgt := 27) F dX12_told_14 (by decide) ?_
    refine jy_widen (cells' := 0) (slots' := 0) (by decide) (by decide) ?_
    exact jy_iret (v := (-1)) F hr hlk () (Or.inr ⟨rfl, fun h => by rcases h with h | h | h | h <;> (rw [h] at h_1; revert h_1; decide)⟩) [] rfl (by decide) dX12_told_27
  · refine jy_iload_n (pc' := 5) F 1 dX12_told_4 rfl rfl rfl ?_
    refine jy_iconst (pc' := 6) (v := 3) F dX12_told_5 (by decide) rfl ?_
    refine jy_icmp_le (pc' := 9) (tgt := 17) F dX12_told_6 (by decide) rfl (fun h_5 => ?_) (fun h_5 => ?_)
    · obtain ⟨tt, htt, rfl⟩ := nI_of2 (M := 3) (n := 3) rfl h_1 h_5
      refine jy_aload_n (pc' := 18) F 0 dX12_told_17 rfl rfl rfl ?_
      refine jy_aload_n (pc' := 19) F 0 dX12_told_18 rfl rfl rfl ?_
      refine jy_get (pc' := 22) (C := RX12) (T := TX12) (N := 51) (ci := 11) (v := .ref b1) F hiX12 0 rfl rfl 0 (by decide) dX12_told_19 (List.mem_of_getElem? (i := 7) rfl) rfl rfl ?_
      refine jy_iload_n (pc' := 23) F 1 dX12_told_22 rfl rfl rfl ?_
      refine jy_iald (pc' := 24) (v := 0) F 1 1 rfl rfl dX12_told_23 (vp_in_nI (n := tt) (by omega) (by omega)) (by rw [nI_clamp (by omega)]; exact ha.2 _ (by omega)) rfl ?_
      refine jy_calli (pc' := 27) (cells' := 0) (slots' := 0) (wr := [(b1, .inl (k.2.1, 1360, .inl fa))]) hA [0] [1] rfl rfl (by decide) (by decide) (jy_runV (As := [.int 0]) (b := m0) (q0 := 0) (ci := 11) (C := RX12) (T := TX12) (N := 51) (st := []) F hN (fun sz => c_X12_gives l D k m0 0 (.ref b1) (.ref b2) (.long 0) (.long 1) (.ref b3) (.ref b4) (.ref b5) (.ref b6) (.ref b7) (.int 0) (.int 0) (.int 0) (.int 0) (.int 0) (.int 0) (.int (-1)) (.int (-1)) (.int 0) (.int 0) (.ref w0) (.ref w1) (.ref w2) (.ref w3) (.ref w4) (.ref w5) (.ref w6) (.ref w7) (.ref w8) (.ref w9) (.int 0) (.int 0) (.int 0) (.ref w10) (.ref w11) (.int 0) (.ref w12) (.ref w13) (.ref w14) (.ref w15) (.ref w16) (.ref w17) (.ref w18) (.ref w19) (.ref w20) (.int 0) (.ref w21) (.ref w22) (.int 0) (.int 0) (.int 0) 0 sz ) (jy_cV F g_c_X12_told_c_X12_gives rfl hdX12_gives (List.mem_of_getElem? (i := 3) rfl) (List.mem_of_getElem? (i := 11) rfl) (List.mem_of_getElem? (i := 9) rfl) (List.mem_of_getElem? (i := 10) rfl) rfl rfl ⟨by decide, by decide⟩) rfl rfl [0] rfl (by decide) rfl rfl (Nat.le_of_ble_eq_true rfl) dX12_told_24 ⟨by decide, by decide⟩) rfl rfl rfl (fun r_8 u_6 e_7 => ?_)
      subst e_7
      refine jy_widen (cells' := 0) (slots' := 0) (by decide) (by decide) ?_
      exact jy_iret (v := 0) F hr hlk () (Or.inl ⟨rfl, by match tt, htt with | 0, _ => exact Or.inl rfl | 1, _ => exact Or.inr (Or.inl rfl) | 2, _ => exact Or.inr (Or.inr (Or.inl rfl)) | 3, _ => exact Or.inr (Or.inr (Or.inr rfl)) | n + 4, h => exact absurd h (by omega)⟩) [] rfl (by decide) dX12_told_27
    · refine jy_aload_n (pc' := 10) F 0 dX12_told_9 rfl rfl rfl ?_
      refine jy_iconst (pc' := 11) (v := 1) F dX12_told_10 (by decide) rfl ?_
      refine jy_calli (pc' := 14) (cells' := 0) (slots' := 0) (wr := [(b1, .inl (k.2.1, 1360, .inl fa))]) hA [0] [1] rfl rfl (by decide) (by decide) (jy_runV (As := [.int 1]) (b := m0) (q0 := 0) (ci := 11) (C := RX12) (T := TX12) (N := 51) (st := []) F hN (fun sz => c_X12_refuse l D k m0 0 (.ref b1) (.ref b2) (.long 0) (.long 1) (.ref b3) (.ref b4) (.ref b5) (.ref b6) (.ref b7) (.int 0) (.int 0) (.int 0) (.int 0) (.int 0) (.int 0) (.int (-1)) (.int (-1)) (.int 0) (.int 0) (.ref w0) (.ref w1) (.ref w2) (.ref w3) (.ref w4) (.ref w5) (.ref w6) (.ref w7) (.ref w8) (.ref w9) (.int 0) (.int 0) (.int 0) (.ref w10) (.ref w11) (.int 0) (.ref w12) (.ref w13) (.ref w14) (.ref w15) (.ref w16) (.ref w17) (.ref w18) (.ref w19) (.ref w20) (.int 0) (.ref w21) (.ref w22) (.int 0) (.int 0) (.int 0) 1 sz ) (jy_cV F g_c_X12_told_c_X12_refuse rfl hdX12_refuse (List.mem_of_getElem? (i := 3) rfl) (List.mem_of_getElem? (i := 6) rfl) (List.mem_of_getElem? (i := 4) rfl) (List.mem_of_getElem? (i := 5) rfl) rfl rfl ⟨by decide, by decide⟩) rfl rfl [0] rfl (by decide) rfl rfl (Nat.le_of_ble_eq_true rfl) dX12_told_11 ⟨by decide, by decide⟩) rfl rfl rfl (fun r_11 u_9 e_10 => ?_)
      subst e_10
      refine jy_goto (tgt := 27) F dX12_told_14 (by decide) ?_
      refine jy_widen (cells' := 0) (slots' := 0) (by decide) (by decide) ?_
      exact jy_iret (v := (-1)) F hr hlk () (Or.inr ⟨rfl, fun h => by rcases h with h | h | h | h <;> (rw [h] at h_5; revert h_5; decide)⟩) [] rfl (by decide) dX12_told_27
theorem jy_34 {x : Int32} (h : ¬ 4 ≤ x) : ¬ 3 < x := fun h3 => by
  by_cases h0 : x < 0
  · exact absurd (Int32.lt_trans h3 h0) (by decide)
  · obtain ⟨j, hj, rfl⟩ := jy_lt4 h0 h
    exact absurd h3 (nI_nlt (a := 3) (b := j) (by omega) (by omega))
theorem jy_43 {x : Int32} (h : 4 ≤ x) (h3 : ¬ 3 < x) : False := h3 (Int32.lt_of_lt_of_le (by decide) h)
abbrev cX12_tray : ByteArray := prog_14_method_13_code
def yX12_tray : MethodName := ⟨RX12, "tray", "(III)Z"⟩
theorem hdX12_tray : yX12_tray.cls ≠ "java/lang/invoke/MethodHandle" ∧ yX12_tray.cls ≠ "java/lang/invoke/VarHandle" ∧ (parseMethodDescriptor yX12_tray.desc).map (fun d => d.parameters.length) = some 3 := by decide +kernel
theorem dX12_tray_0 : decode cX12_tray 0 = .ok (.iload_n 1, 1) := by decide +kernel
theorem dX12_tray_1 : decode cX12_tray 1 = .ok (.invokestatic 134, 3) := by decide +kernel
theorem dX12_tray_4 : decode cX12_tray 4 = .ok (.ifCond .eq 22, 3) := by decide +kernel
theorem dX12_tray_7 : decode cX12_tray 7 = .ok (.iload_n 2, 1) := by decide +kernel
theorem dX12_tray_8 : decode cX12_tray 8 = .ok (.ifCond .lt 18, 3) := by decide +kernel
theorem dX12_tray_11 : decode cX12_tray 11 = .ok (.iload_n 2, 1) := by decide +kernel
theorem dX12_tray_12 : decode cX12_tray 12 = .ok (.iconst 3, 1) := by decide +kernel
theorem dX12_tray_13 : decode cX12_tray 13 = .ok (.if_icmp .gt 13, 3) := by decide +kernel
theorem dX12_tray_16 : decode cX12_tray 16 = .ok (.iload_n 3, 1) := by decide +kernel
theorem dX12_tray_17 : decode cX12_tray 17 = .ok (.ifCond .lt 9, 3) := by decide +kernel
theorem dX12_tray_20 : decode cX12_tray 20 = .ok (.iload_n 3, 1) := by decide +kernel
theorem dX12_tray_21 : decode cX12_tray 21 = .ok (.bipush 60, 2) := by decide +kernel
theorem dX12_tray_23 : decode cX12_tray 23 = .ok (.if_icmp .le 9, 3) := by decide +kernel
theorem dX12_tray_26 : decode cX12_tray 26 = .ok (.aload_n 0, 1) := by decide +kernel
theorem dX12_tray_27 : decode cX12_tray 27 = .ok (.iconst 1, 1) := by decide +kernel
theorem dX12_tray_28 : decode cX12_tray 28 = .ok (.invokevirtual 130, 3) := by decide +kernel
theorem dX12_tray_31 : decode cX12_tray 31 = .ok (.ireturn, 1) := by decide +kernel
theorem dX12_tray_32 : decode cX12_tray 32 = .ok (.aload_n 0, 1) := by decide +kernel
theorem dX12_tray_33 : decode cX12_tray 33 = .ok (.getfield 21, 3) := by decide +kernel
theorem dX12_tray_36 : decode cX12_tray 36 = .ok (.iload_n 1, 1) := by decide +kernel
theorem dX12_tray_37 : decode cX12_tray 37 = .ok (.iload_n 2, 1) := by decide +kernel
theorem dX12_tray_38 : decode cX12_tray 38 = .ok (.iastore, 1) := by decide +kernel
theorem dX12_tray_39 : decode cX12_tray 39 = .ok (.aload_n 0, 1) := by decide +kernel
theorem dX12_tray_40 : decode cX12_tray 40 = .ok (.getfield 24, 3) := by decide +kernel
theorem dX12_tray_43 : decode cX12_tray 43 = .ok (.iload_n 1, 1) := by decide +kernel
theorem dX12_tray_44 : decode cX12_tray 44 = .ok (.iload_n 3, 1) := by decide +kernel
theorem dX12_tray_45 : decode cX12_tray 45 = .ok (.iastore, 1) := by decide +kernel
theorem dX12_tray_46 : decode cX12_tray 46 = .ok (.iconst 0, 1) := by decide +kernel
theorem dX12_tray_47 : decode cX12_tray 47 = .ok (.istore 4, 2) := by decide +kernel
theorem dX12_tray_49 : decode cX12_tray 49 = .ok (.iload 4, 2) := by decide +kernel
theorem dX12_tray_51 : decode cX12_tray 51 = .ok (.iload_n 3, 1) := by decide +kernel
theorem dX12_tray_52 : decode cX12_tray 52 = .ok (.if_icmp .ge 22, 3) := by decide +kernel
theorem dX12_tray_55 : decode cX12_tray 55 = .ok (.aload_n 0, 1) := by decide +kernel
theorem dX12_tray_56 : decode cX12_tray 56 = .ok (.getfield 27, 3) := by decide +kernel
theorem dX12_tray_59 : decode cX12_tray 59 = .ok (.bipush 60, 2) := by decide +kernel
theorem dX12_tray_61 : decode cX12_tray 61 = .ok (.iload_n 1, 1) := by decide +kernel
theorem dX12_tray_62 : decode cX12_tray 62 = .ok (.imul, 1) := by decide +kernel
theorem dX12_tray_63 : decode cX12_tray 63 = .ok (.iload 4, 2) := by decide +kernel
theorem dX12_tray_65 : decode cX12_tray 65 = .ok (.iadd, 1) := by decide +kernel
theorem dX12_tray_66 : decode cX12_tray 66 = .ok (.lconst 0, 1) := by decide +kernel
theorem dX12_tray_67 : decode cX12_tray 67 = .ok (.lastore, 1) := by decide +kernel
theorem dX12_tray_68 : decode cX12_tray 68 = .ok (.iinc 4 1, 3) := by decide +kernel
theorem dX12_tray_71 : decode cX12_tray 71 = .ok (.goto (-22), 3) := by decide +kernel
theorem dX12_tray_74 : decode cX12_tray 74 = .ok (.aload_n 0, 1) := by decide +kernel
theorem dX12_tray_75 : decode cX12_tray 75 = .ok (.iconst 0, 1) := by decide +kernel
theorem dX12_tray_76 : decode cX12_tray 76 = .ok (.invokevirtual 130, 3) := by decide +kernel
theorem dX12_tray_79 : decode cX12_tray 79 = .ok (.ireturn, 1) := by decide +kernel
def ws_c_X12_tray : List Cond := .code yX12_tray cX12_tray 5 (some .boolean) :: ([.code ⟨"NestedCheckerModel", "isTray", "(I)Z"⟩ cX12_isTray 1 (some .boolean), .initialized "NestedCheckerModel", .static ⟨"NestedCheckerModel", "isTray", "(I)Z"⟩, .methodLink "NestedCheckerModel" 134 ⟨"NestedCheckerModel", "isTray", "(I)Z"⟩, .code ⟨"NestedCheckerModel", "is", "(I)Z"⟩ cX12_is 2 (some .boolean), .fieldLink "NestedCheckerModel" 117 "NestedCheckerModel" "status" "I", .instanceMethod ⟨"NestedCheckerModel", "is", "(I)Z"⟩, .selects "NestedCheckerModel" ⟨"NestedCheckerModel", "is", "(I)Z"⟩ ⟨"NestedCheckerModel", "is", "(I)Z"⟩, .methodLink "NestedCheckerModel" 130 ⟨"NestedCheckerModel", "is", "(I)Z"⟩, .fieldLink "NestedCheckerModel" 21 "NestedCheckerModel" "sort" "[I", .fieldLink "NestedCheckerModel" 24 "NestedCheckerModel" "trayMany" "[I", .fieldLink "NestedCheckerModel" 27 "NestedCheckerModel" "trays" "[J"] ++ wsX120)
set_option maxRecDepth 20000 in
theorem g_c_X12_tray_c_X12_isTray : GoodIn ws_c_X12_tray ws_c_X12_isTray := goodIn_r _ [1] (by decide +kernel) (by decide +kernel)
set_option maxRecDepth 20000 in
theorem g_c_X12_tray_c_X12_is_1 : GoodIn ws_c_X12_tray ws_c_X12_is_1 := goodIn_r _ [5, 6, 13, 14, 15, 16, 17, 18, 19, 20, 21, 22, 23, 24, 25, 26, 27, 28, 29, 30, 31, 32, 33, 34, 35, 36, 37, 38, 39, 40, 41, 42, 43, 44, 45, 46, 47, 48, 49, 50, 51, 52, 53, 54, 55, 56, 57, 58, 59, 60, 61, 62, 63] (by decide +kernel) (by decide +kernel)
set_option maxRecDepth 20000 in
theorem g_c_X12_tray_c_X12_is_0 : GoodIn ws_c_X12_tray ws_c_X12_is_0 := goodIn_r _ [5, 6, 13, 14, 15, 16, 17, 18, 19, 20, 21, 22, 23, 24, 25, 26, 27, 28, 29, 30, 31, 32, 33, 34, 35, 36, 37, 38, 39, 40, 41, 42, 43, 44, 45, 46, 47, 48, 49, 50, 51, 52, 53, 54, 55, 56, 57, 58, 59, 60, 61, 62, 63] (by decide +kernel) (by decide +kernel)
set_option maxHeartbeats 4000000 in
set_option maxRecDepth 100000 in
theorem c_X12_tray (l : Launch) (D : va_G) (k : jK) (m0 : Nat) (b1 : Nat) (b2 : Nat) (b3 : Nat) (b4 : Nat) (b5 : Nat) (b6 : Nat) (b7 : Nat) (w0 : Nat) (w1 : Nat) (w2 : Nat) (w3 : Nat) (w4 : Nat) (w5 : Nat) (w6 : Nat) (w7 : Nat) (w8 : Nat) (w9 : Nat) (w10 : Nat) (w11 : Nat) (w12 : Nat) (w13 : Nat) (w14 : Nat) (w15 : Nat) (w16 : Nat) (w17 : Nat) (w18 : Nat) (w19 : Nat) (w20 : Nat) (w21 : Nat) (w22 : Nat) (fq : Nat → Int32) (fm : Nat → Int32) (gv : Nat → Int64) (i1 : Int32) (i2 : Int32) (i3 : Int32) (sz : Nat) (hm : ∀ j, j < 4 → fm j = -1) : Met l yX12_tray ws_c_X12_tray ({ frames := 1, cells := 0, slots := 0, locals := 21 }) (jy_P [.ref m0, .int i1, .int i2, .int i3] D vwCl (jT k) jW [(m0, .inr (11, [.ref b1, .ref b2, .int 0, .long 0, .long 1, .ref b3, .ref b4, .ref b5, .ref b6, .ref b7, .int 0, .int 0, .int 0, .int 0, .int 0, .int 0, .int (-1), .int (-1), .int 0, .int 0, .ref w0, .ref w1, .ref w2, .ref w3, .ref w4, .ref w5, .ref w6, .ref w7, .ref w8, .ref w9, .int 0, .int 0, .int 0, .ref w10, .ref w11, .int 0, .ref w12, .ref w13, .ref w14, .ref w15, .ref w16, .ref w17, .ref w18, .ref w19, .ref w20, .int 0, .ref w21, .ref w22, .int 0, .int 0, .int 0])), (b3, .inl (k.2.1, 4, .inl fq)), (b4, .inl (k.2.1, 4, .inl fm)), (b5, .inl (k.2.2.1, 240, .inr (.inl gv)))] sz) (va_Qi (fun (r : Int32) (u : Unit) => (r = 1 ∧ (¬ i1 < 0 ∧ ¬ 3 < i1 ∧ ¬ i2 < 0 ∧ ¬ 3 < i2 ∧ ¬ i3 < 0 ∧ ¬ 60 < i3)) ∨ (r = 0 ∧ ¬ (¬ i1 < 0 ∧ ¬ 3 < i1 ∧ ¬ i2 < 0 ∧ ¬ 3 < i2 ∧ ¬ i3 < 0 ∧ ¬ 60 < i3))) (jy_B D vwCl (va_A [(m0, .inr (11, [.ref b1, .ref b2, .int 0, .long 0, .long 1, .ref b3, .ref b4, .ref b5, .ref b6, .ref b7, .int 0, .int 0, .int 0, .int 0, .int 0, .int 0, .int (-1), .int (-1), .int 0, .int 0, .ref w0, .ref w1, .ref w2, .ref w3, .ref w4, .ref w5, .ref w6, .ref w7, .ref w8, .ref w9, .int 0, .int 0, .int 0, .ref w10, .ref w11, .int 0, .ref w12, .ref w13, .ref w14, .ref w15, .ref w16, .ref w17, .ref w18, .ref w19, .ref w20, .int 0, .ref w21, .ref w22, .int 0, .int 0, .int 0])), (b3, .inl (k.2.1, 4, .inl fq)), (b4, .inl (k.2.1, 4, .inl fm)), (b5, .inl (k.2.2.1, 240, .inr (.inl gv)))] sz) (fun (u : Unit) => [])) (va_A [(m0, .inr (11, [.ref b1, .ref b2, .int 0, .long 0, .long 1, .ref b3, .ref b4, .ref b5, .ref b6, .ref b7, .int 0, .int 0, .int 0, .int 0, .int 0, .int 0, .int (-1), .int (-1), .int 0, .int 0, .ref w0, .ref w1, .ref w2, .ref w3, .ref w4, .ref w5, .ref w6, .ref w7, .ref w8, .ref w9, .int 0, .int 0, .int 0, .ref w10, .ref w11, .int 0, .ref w12, .ref w13, .ref w14, .ref w15, .ref w16, .ref w17, .ref w18, .ref w19, .ref w20, .int 0, .ref w21, .ref w22, .int 0, .int 0, .int 0])), (b3, .inl (k.2.1, 4, .inl fq)), (b4, .inl (k.2.1, 4, .inl fm)), (b5, .inl (k.2.2.1, 240, .inr (.inl gv)))] sz)) 0 0 (va_A [(m0, .inr (11, [.ref b1, .ref b2, .int 0, .long 0, .long 1, .ref b3, .ref b4, .ref b5, .ref b6, .ref b7, .int 0, .int 0, .int 0, .int 0, .int 0, .int 0, .int (-1), .int (-1), .int 0, .int 0, .ref w0, .ref w1, .ref w2, .ref w3, .ref w4, .ref w5, .ref w6, .ref w7, .ref w8, .ref w9, .int 0, .int 0, .int 0, .ref w10, .ref w11, .int 0, .ref w12, .ref w13, .ref w14, .ref w15, .ref w16, .ref w17, .ref w18, .ref w19, .ref w20, .int 0, .ref w21, .ref w22, .int 0, .int 0, .int 0])), (b3, .inl (k.2.1, 4, .inl fq)), (b4, .inl (k.2.1, 4, .inl fm)), (b5, .inl (k.2.2.1, 240, .inr (.inl gv)))] sz) := by
  refine jy_met (cc := cX12_tray) (maxL := 5) (ret := (some .boolean)) (lv := [(0, .ref m0), (1, .int i1), (2, .int i2), (3, .int i3)]) (by decide) rfl (Nat.le_of_ble_eq_true rfl) rfl ?_
  intro p e s m below meth c F hr hlk hnm hN hA
  have hiX12 : ∀ w ∈ u_ws RX12 TX12 51, w ∈ ws_c_X12_tray := fun w hw => List.mem_cons_of_mem _ (List.mem_append_right _ hw)
  refine jy_iload_n (pc' := 1) F 1 dX12_tray_0 rfl rfl rfl ?_
  refine jy_callSi (pc' := 4) (jy_runS (As := [.int i1]) (st := []) F hN (fun sz => c_X12_isTray l D k i1 sz ) (jy_cS F g_c_X12_tray_c_X12_isTray rfl hdX12_isTray (List.mem_of_getElem? (i := 2) rfl) (List.mem_of_getElem? (i := 4) rfl) (List.mem_of_getElem? (i := 3) rfl) rfl rfl ⟨by decide, by decide⟩) [] rfl (by decide) rfl rfl (Nat.le_of_ble_eq_true rfl) dX12_tray_1 ⟨by decide, by decide⟩) rfl (fun r_1 e_2 => ?_)
  rcases e_2 with ⟨z_4, h_3⟩ | ⟨z_5, h_3⟩
  · subst z_4
    refine jy_if_eq (pc' := 7) (tgt := 26) F dX12_tray_4 (by decide) rfl (fun h => absurd h (by decide)) (fun _ => ?_)
    refine jy_iload_n (pc' := 8) F 2 dX12_tray_7 rfl rfl rfl ?_
    refine jy_if_lt (pc' := 11) (tgt := 26) F dX12_tray_8 (by decide) rfl (fun h_7 => ?_) (fun h_7 => ?_)
    · refine jy_aload_n (pc' := 27) F 0 dX12_tray_26 rfl rfl rfl ?_
      refine jy_iconst (pc' := 28) (v := 1) F dX12_tray_27 (by decide) rfl ?_
      refine jy_calli (pc' := 31) (cells' := 0) (slots' := 0) (wr := [(b3, .inl (k.2.1, 4, .inl fq)), (b4, .inl (k.2.1, 4, .inl fm)), (b5, .inl (k.2.2.1, 240, .inr (.inl gv)))]) hA [0] [1, 2, 3] rfl rfl (by decide) (by decide) (jy_runV (As := [.int 1]) (b := m0) (q0 := 0) (ci := 11) (C := RX12) (T := TX12) (N := 51) (st := []) F hN (fun sz => c_X12_is_1 l D k m0 0 (.ref b1) (.ref b2) (.long 0) (.long 1) (.ref b3) (.ref b4) (.ref b5) (.ref b6) (.ref b7) (.int 0) (.int 0) (.int 0) (.int 0) (.int 0) (.int 0) (.int (-1)) (.int (-1)) (.int 0) (.int 0) (.ref w0) (.ref w1) (.ref w2) (.ref w3) (.ref w4) (.ref w5) (.ref w6) (.ref w7) (.ref w8) (.ref w9) (.int 0) (.int 0) (.int 0) (.ref w10) (.ref w11) (.int 0) (.ref w12) (.ref w13) (.ref w14) (.ref w15) (.ref w16) (.ref w17) (.ref w18) (.ref w19) (.ref w20) (.int 0) (.ref w21) (.ref w22) (.int 0) (.int 0) (.int 0) sz ) (jy_cV F g_c_X12_tray_c_X12_is_1 rfl hdX12_is (List.mem_of_getElem? (i := 2) rfl) (List.mem_of_getElem? (i := 9) rfl) (List.mem_of_getElem? (i := 7) rfl) (List.mem_of_getElem? (i := 8) rfl) rfl rfl ⟨by decide, by decide⟩) rfl rfl [0] rfl (by decide) rfl rfl (Nat.le_of_ble_eq_true rfl) dX12_tray_28 ⟨by decide, by decide⟩) rfl rfl rfl (fun r_10 u_8 e_9 => ?_)
      subst e_9
      refine jy_widen (cells' := 0) (slots' := 0) (by decide) (by decide) ?_
      exact jy_zret (v := 0) F hr hlk (by first | rfl | decide) () (Or.inr ⟨rfl, fun C => C.2.2.1 h_7⟩) [] rfl (by decide) dX12_tray_31
    · refine jy_iload_n (pc' := 12) F 2 dX12_tray_11 rfl rfl rfl ?_
      refine jy_iconst (pc' := 13) (v := 3) F dX12_tray_12 (by decide) rfl ?_
      refine jy_icmp_gt (pc' := 16) (tgt := 26) F dX12_tray_13 (by decide) rfl (fun h_11 => ?_) (fun h_11 => ?_)
      · refine jy_aload_n (pc' := 27) F 0 dX12_tray_26 rfl rfl rfl ?_
        refine jy_iconst (pc' := 28) (v := 1) F dX12_tray_27 (by decide) rfl ?_
        refine jy_calli (pc' := 31) (cells' := 0) (slots' := 0) (wr := [(b3, .inl (k.2.1, 4, .inl fq)), (b4, .inl (k.2.1, 4, .inl fm)), (b5, .inl (k.2.2.1, 240, .inr (.inl gv)))]) hA [0] [1, 2, 3] rfl rfl (by decide) (by decide) (jy_runV (As := [.int 1]) (b := m0) (q0 := 0) (ci := 11) (C := RX12) (T := TX12) (N := 51) (st := []) F hN (fun sz => c_X12_is_1 l D k m0 0 (.ref b1) (.ref b2) (.long 0) (.long 1) (.ref b3) (.ref b4) (.ref b5) (.ref b6) (.ref b7) (.int 0) (.int 0) (.int 0) (.int 0) (.int 0) (.int 0) (.int (-1)) (.int (-1)) (.int 0) (.int 0) (.ref w0) (.ref w1) (.ref w2) (.ref w3) (.ref w4) (.ref w5) (.ref w6) (.ref w7) (.ref w8) (.ref w9) (.int 0) (.int 0) (.int 0) (.ref w10) (.ref w11) (.int 0) (.ref w12) (.ref w13) (.ref w14) (.ref w15) (.ref w16) (.ref w17) (.ref w18) (.ref w19) (.ref w20) (.int 0) (.ref w21) (.ref w22) (.int 0) (.int 0) (.int 0) sz ) (jy_cV F g_c_X12_tray_c_X12_is_1 rfl hdX12_is (List.mem_of_getElem? (i := 2) rfl) (List.mem_of_getElem? (i := 9) rfl) (List.mem_of_getElem? (i := 7) rfl) (List.mem_of_getElem? (i := 8) rfl) rfl rfl ⟨by decide, by decide⟩) rfl rfl [0] rfl (by decide) rfl rfl (Nat.le_of_ble_eq_true rfl) dX12_tray_28 ⟨by decide, by decide⟩) rfl rfl rfl (fun r_14 u_12 e_13 => ?_)
        subst e_13
        refine jy_widen (cells' := 0) (slots' := 0) (by decide) (by decide) ?_
        exact jy_zret (v := 0) F hr hlk (by first | rfl | decide) () (Or.inr ⟨rfl, fun C => C.2.2.2.1 h_11⟩) [] rfl (by decide) dX12_tray_31
      · refine jy_iload_n (pc' := 17) F 3 dX12_tray_16 rfl rfl rfl ?_
        refine jy_if_lt (pc' := 20) (tgt := 26) F dX12_tray_17 (by decide) rfl (fun h_15 => ?_) (fun h_15 => ?_)
        · refine jy_aload_n (pc' := 27) F 0 dX12_tray_26 rfl rfl rfl ?_
          refine jy_iconst (pc' := 28) (v := 1) F dX12_tray_27 (by decide) rfl ?_
          refine jy_calli (pc' := 31) (cells' := 0) (slots' := 0) (wr := [(b3, .inl (k.2.1, 4, .inl fq)), (b4, .inl (k.2.1, 4, .inl fm)), (b5, .inl (k.2.2.1, 240, .inr (.inl gv)))]) hA [0] [1, 2, 3] rfl rfl (by decide) (by decide) (jy_runV (As := [.int 1]) (b := m0) (q0 := 0) (ci := 11) (C := RX12) (T := TX12) (N := 51) (st := []) F hN (fun sz => c_X12_is_1 l D k m0 0 (.ref b1) (.ref b2) (.long 0) (.long 1) (.ref b3) (.ref b4) (.ref b5) (.ref b6) (.ref b7) (.int 0) (.int 0) (.int 0) (.int 0) (.int 0) (.int 0) (.int (-1)) (.int (-1)) (.int 0) (.int 0) (.ref w0) (.ref w1) (.ref w2) (.ref w3) (.ref w4) (.ref w5) (.ref w6) (.ref w7) (.ref w8) (.ref w9) (.int 0) (.int 0) (.int 0) (.ref w10) (.ref w11) (.int 0) (.ref w12) (.ref w13) (.ref w14) (.ref w15) (.ref w16) (.ref w17) (.ref w18) (.ref w19) (.ref w20) (.int 0) (.ref w21) (.ref w22) (.int 0) (.int 0) (.int 0) sz ) (jy_cV F g_c_X12_tray_c_X12_is_1 rfl hdX12_is (List.mem_of_getElem? (i := 2) rfl) (List.mem_of_getElem? (i := 9) rfl) (List.mem_of_getElem? (i := 7) rfl) (List.mem_of_getElem? (i := 8) rfl) rfl rfl ⟨by decide, by decide⟩) rfl rfl [0] rfl (by decide) rfl rfl (Nat.le_of_ble_eq_true rfl) dX12_tray_28 ⟨by decide, by decide⟩) rfl rfl rfl (fun r_18 u_16 e_17 => ?_)
          subst e_17
          refine jy_widen (cells' := 0) (slots' := 0) (by decide) (by decide) ?_
          exact jy_zret (v := 0) F hr hlk (by first | rfl | decide) () (Or.inr ⟨rfl, fun C => C.2.2.2.2.1 h_15⟩) [] rfl (by decide) dX12_tray_31
        · refine jy_iload_n (pc' := 21) F 3 dX12_tray_20 rfl rfl rfl ?_
          refine jy_bipush (pc' := 23) (v := 60) F dX12_tray_21 (by decide) rfl ?_
          refine jy_icmp_le (pc' := 26) (tgt := 32) F dX12_tray_23 (by decide) rfl (fun h_19 => ?_) (fun h_19 => ?_)
          · obtain ⟨tt, htt, rfl⟩ := jy_lt4 h_3.1 h_3.2
            obtain ⟨mm, hmm, rfl⟩ := nI_of2 (M := 60) (n := 60) rfl h_15 h_19
            refine jy_aload_n (pc' := 33) F 0 dX12_tray_32 rfl rfl rfl ?_
            refine jy_get (pc' := 36) (C := RX12) (T := TX12) (N := 51) (ci := 11) (v := .ref b3) F hiX12 0 rfl rfl 5 (by decide) dX12_tray_33 (List.mem_of_getElem? (i := 10) rfl) rfl rfl ?_
            refine jy_iload_n (pc' := 37) F 1 dX12_tray_36 rfl rfl rfl ?_
            refine jy_iload_n (pc' := 38) F 2 dX12_tray_37 rfl rfl rfl ?_
            refine jy_iast (pc' := 39) (g := (upd fq tt i2)) (ws' := [(m0, .inr (11, [.ref b1, .ref b2, .int 0, .long 0, .long 1, .ref b3, .ref b4, .ref b5, .ref b6, .ref b7, .int 0, .int 0, .int 0, .int 0, .int 0, .int 0, .int (-1), .int (-1), .int 0, .int 0, .ref w0, .ref w1, .ref w2, .ref w3, .ref w4, .ref w5, .ref w6, .ref w7, .ref w8, .ref w9, .int 0, .int 0, .int 0, .ref w10, .ref w11, .int 0, .ref w12, .ref w13, .ref w14, .ref w15, .ref w16, .ref w17, .ref w18, .ref w19, .ref w20, .int 0, .ref w21, .ref w22, .int 0, .int 0, .int 0])), (b3, .inl (k.2.1, 4, .inl (upd fq tt i2))), (b4, .inl (k.2.1, 4, .inl fm)), (b5, .inl (k.2.2.1, 240, .inr (.inl gv)))]) F 1 1 rfl rfl dX12_tray_38 (vp_in_nI (n := tt) (by omega) (by omega)) (by rw [nI_clamp (by omega)]) rfl rfl ?_
            refine jy_aload_n (pc' := 40) F 0 dX12_tray_39 rfl rfl rfl ?_
            refine jy_get (pc' := 43) (C := RX12) (T := TX12) (N := 51) (ci := 11) (v := .ref b4) F hiX12 0 rfl rfl 6 (by decide) dX12_tray_40 (List.mem_of_getElem? (i := 11) rfl) rfl rfl ?_
            refine jy_iload_n (pc' := 44) F 1 dX12_tray_43 rfl rfl rfl ?_
            refine jy_iload_n (pc' := 45) F 3 dX12_tray_44 rfl rfl rfl ?_
            refine jy_iast (pc' := 46) (g := (upd fm tt (nI mm))) (ws' := [(m0, .inr (11, [.ref b1, .ref b2, .int 0, .long 0, .long 1, .ref b3, .ref b4, .ref b5, .ref b6, .ref b7, .int 0, .int 0, .int 0, .int 0, .int 0, .int 0, .int (-1), .int (-1), .int 0, .int 0, .ref w0, .ref w1, .ref w2, .ref w3, .ref w4, .ref w5, .ref w6, .ref w7, .ref w8, .ref w9, .int 0, .int 0, .int 0, .ref w10, .ref w11, .int 0, .ref w12, .ref w13, .ref w14, .ref w15, .ref w16, .ref w17, .ref w18, .ref w19, .ref w20, .int 0, .ref w21, .ref w22, .int 0, .int 0, .int 0])), (b3, .inl (k.2.1, 4, .inl (upd fq tt i2))), (b4, .inl (k.2.1, 4, .inl (upd fm tt (nI mm)))), (b5, .inl (k.2.2.1, 240, .inr (.inl gv)))]) F 2 1 rfl rfl dX12_tray_45 (vp_in_nI (n := tt) (by omega) (by omega)) (by rw [nI_clamp (by omega)]) rfl rfl ?_
            refine jy_iconst (pc' := 47) (v := 0) F dX12_tray_46 (by decide) rfl ?_
            refine jy_istore (pc' := 49) (lv' := [(4, .int 0), (0, .ref m0), (1, .int (nI tt)), (2, .int i2), (3, .int (nI mm))]) F dX12_tray_47 (by decide) rfl rfl ?_
            refine jy_lpick (lv' := [(4, .int 0), (0, .ref m0), (1, .int (nI tt)), (2, .int i2), (3, .int (nI mm))]) [0, 1, 2, 3, 4] rfl ?_
            refine jy_loop (α := (Nat → Int64)) (ws := fun i_20 a_22 => [(m0, .inr (11, [.ref b1, .ref b2, .int 0, .long 0, .long 1, .ref b3, .ref b4, .ref b5, .ref b6, .ref b7, .int 0, .int 0, .int 0, .int 0, .int 0, .int 0, .int (-1), .int (-1), .int 0, .int 0, .ref w0, .ref w1, .ref w2, .ref w3, .ref w4, .ref w5, .ref w6, .ref w7, .ref w8, .ref w9, .int 0, .int 0, .int 0, .ref w10, .ref w11, .int 0, .ref w12, .ref w13, .ref w14, .ref w15, .ref w16, .ref w17, .ref w18, .ref w19, .ref w20, .int 0, .ref w21, .ref w22, .int 0, .int 0, .int 0])), (b3, .inl (k.2.1, 4, .inl (upd fq tt i2))), (b4, .inl (k.2.1, 4, .inl (upd fm tt (nI mm)))), (b5, .inl (k.2.2.1, 240, .inr (.inl a_22)))]) (lv := fun i_20 a_22 => [(4, .int (nI i_20)), (0, .ref m0), (1, .int (nI tt)), (2, .int i2), (3, .int (nI mm))]) (I := fun i_20 a_22 => True) (hi := mm) (i0 := 0) (a0 := (gv)) (by omega) (trivial) ?_ ?_
            · rintro i_20 f_21 h_23 hv_25 ih_24
              refine jy_ws (ws' := [(m0, .inr (11, [.ref b1, .ref b2, .int 0, .long 0, .long 1, .ref b3, .ref b4, .ref b5, .ref b6, .ref b7, .int 0, .int 0, .int 0, .int 0, .int 0, .int 0, .int (-1), .int (-1), .int 0, .int 0, .ref w0, .ref w1, .ref w2, .ref w3, .ref w4, .ref w5, .ref w6, .ref w7, .ref w8, .ref w9, .int 0, .int 0, .int 0, .ref w10, .ref w11, .int 0, .ref w12, .ref w13, .ref w14, .ref w15, .ref w16, .ref w17, .ref w18, .ref w19, .ref w20, .int 0, .ref w21, .ref w22, .int 0, .int 0, .int 0])), (b3, .inl (k.2.1, 4, .inl (upd fq tt i2))), (b4, .inl (k.2.1, 4, .inl (upd fm tt (nI mm)))), (b5, .inl (k.2.2.1, 240, .inr (.inl f_21)))]) rfl ?_
              refine jy_iload (pc' := 51) F 0 dX12_tray_49 rfl rfl ?_
              refine jy_iload_n (pc' := 52) F 4 dX12_tray_51 rfl rfl rfl ?_
              refine jy_icmp_ge (pc' := 55) (tgt := 74) F dX12_tray_52 (by decide) rfl (fun h => absurd h (nI_ge (a := i_20) (b := mm) (by omega) (by omega))) (fun _ => ?_)
              refine jy_aload_n (pc' := 56) F 1 dX12_tray_55 rfl rfl rfl ?_
              refine jy_get (pc' := 59) (C := RX12) (T := TX12) (N := 51) (ci := 11) (v := .ref b5) F hiX12 0 rfl rfl 7 (by decide) dX12_tray_56 (List.mem_of_getElem? (i := 12) rfl) rfl rfl ?_
              refine jy_bipush (pc' := 61) (v := 60) F dX12_tray_59 (by decide) rfl ?_
              refine jy_iload_n (pc' := 62) F 2 dX12_tray_61 rfl rfl rfl ?_
              refine jy_imul (pc' := 63) (v := (nI (60 * tt))) F dX12_tray_62 (pk_mul 60 tt) rfl ?_
              refine jy_iload (pc' := 65) F 0 dX12_tray_63 rfl rfl ?_
              refine jy_iadd (pc' := 66) (v := (nI ((60 * tt) + i_20))) F dX12_tray_65 (nI_add (60 * tt) i_20) rfl ?_
              refine jy_lconst (pc' := 67) (v := 0) F dX12_tray_66 (by decide) rfl ?_
              refine jy_last (pc' := 68) (g := (vp_updL f_21 ((60 * tt) + i_20) 0)) (ws' := [(m0, .inr (11, [.ref b1, .ref b2, .int 0, .long 0, .long 1, .ref b3, .ref b4, .ref b5, .ref b6, .ref b7, .int 0, .int 0, .int 0, .int 0, .int 0, .int 0, .int (-1), .int (-1), .int 0, .int 0, .ref w0, .ref w1, .ref w2, .ref w3, .ref w4, .ref w5, .ref w6, .ref w7, .ref w8, .ref w9, .int 0, .int 0, .int 0, .ref w10, .ref w11, .int 0, .ref w12, .ref w13, .ref w14, .ref w15, .ref w16, .ref w17, .ref w18, .ref w19, .ref w20, .int 0, .ref w21, .ref w22, .int 0, .int 0, .int 0])), (b3, .inl (k.2.1, 4, .inl (upd fq tt i2))), (b4, .inl (k.2.1, 4, .inl (upd fm tt (nI mm)))), (b5, .inl (k.2.2.1, 240, .inr (.inl (vp_updL f_21 ((60 * tt) + i_20) 0))))]) F 3 2 rfl rfl dX12_tray_67 (vp_in_nI (n := (60 * tt) + i_20) (by omega) (by omega)) (by rw [nI_clamp (by omega)]) rfl rfl ?_
              refine jy_iinc (pc' := 71) (v := (nI (i_20 + 1))) (lv' := [(4, .int (nI (i_20 + 1))), (0, .ref m0), (1, .int (nI tt)), (2, .int i2), (3, .int (nI mm))]) F 0 dX12_tray_68 rfl (nI_add i_20 1) (by decide) rfl rfl ?_
              refine jy_goto (tgt := 49) F dX12_tray_71 (by decide) ?_
              refine jy_lpick (lv' := [(4, .int (nI (i_20 + 1))), (0, .ref m0), (1, .int (nI tt)), (2, .int i2), (3, .int (nI mm))]) [0, 1, 2, 3, 4] rfl ?_
              exact ih_24 ((vp_updL f_21 ((60 * tt) + i_20) 0)) (trivial)
            · rintro f_21 hv_25
              refine jy_ws (ws' := [(m0, .inr (11, [.ref b1, .ref b2, .int 0, .long 0, .long 1, .ref b3, .ref b4, .ref b5, .ref b6, .ref b7, .int 0, .int 0, .int 0, .int 0, .int 0, .int 0, .int (-1), .int (-1), .int 0, .int 0, .ref w0, .ref w1, .ref w2, .ref w3, .ref w4, .ref w5, .ref w6, .ref w7, .ref w8, .ref w9, .int 0, .int 0, .int 0, .ref w10, .ref w11, .int 0, .ref w12, .ref w13, .ref w14, .ref w15, .ref w16, .ref w17, .ref w18, .ref w19, .ref w20, .int 0, .ref w21, .ref w22, .int 0, .int 0, .int 0])), (b3, .inl (k.2.1, 4, .inl (upd fq tt i2))), (b4, .inl (k.2.1, 4, .inl (upd fm tt (nI mm)))), (b5, .inl (k.2.2.1, 240, .inr (.inl f_21)))]) rfl ?_
              refine jy_iload (pc' := 51) F 0 dX12_tray_49 rfl rfl ?_
              refine jy_iload_n (pc' := 52) F 4 dX12_tray_51 rfl rfl rfl ?_
              refine jy_icmp_ge (pc' := 55) (tgt := 74) F dX12_tray_52 (by decide) rfl (fun _ => ?_) (fun h => absurd (nI_le (a := mm) (b := mm) (by omega) (by omega)) h)
              refine jy_aload_n (pc' := 75) F 1 dX12_tray_74 rfl rfl rfl ?_
              refine jy_iconst (pc' := 76) (v := 0) F dX12_tray_75 (by decide) rfl ?_
              refine jy_calli (pc' := 79) (cells' := 0) (slots' := 0) (wr := [(b3, .inl (k.2.1, 4, .inl (upd fq tt i2))), (b4, .inl (k.2.1, 4, .inl (upd fm tt (nI mm)))), (b5, .inl (k.2.2.1, 240, .inr (.inl f_21)))]) hA [0] [1, 2, 3] rfl rfl (by decide) (by decide) (jy_runV (As := [.int 0]) (b := m0) (q0 := 0) (ci := 11) (C := RX12) (T := TX12) (N := 51) (st := []) F hN (fun sz => c_X12_is_0 l D k m0 0 (.ref b1) (.ref b2) (.long 0) (.long 1) (.ref b3) (.ref b4) (.ref b5) (.ref b6) (.ref b7) (.int 0) (.int 0) (.int 0) (.int 0) (.int 0) (.int 0) (.int (-1)) (.int (-1)) (.int 0) (.int 0) (.ref w0) (.ref w1) (.ref w2) (.ref w3) (.ref w4) (.ref w5) (.ref w6) (.ref w7) (.ref w8) (.ref w9) (.int 0) (.int 0) (.int 0) (.ref w10) (.ref w11) (.int 0) (.ref w12) (.ref w13) (.ref w14) (.ref w15) (.ref w16) (.ref w17) (.ref w18) (.ref w19) (.ref w20) (.int 0) (.ref w21) (.ref w22) (.int 0) (.int 0) (.int 0) sz ) (jy_cV F g_c_X12_tray_c_X12_is_0 rfl hdX12_is (List.mem_of_getElem? (i := 2) rfl) (List.mem_of_getElem? (i := 9) rfl) (List.mem_of_getElem? (i := 7) rfl) (List.mem_of_getElem? (i := 8) rfl) rfl rfl ⟨by decide, by decide⟩) rfl rfl [0] rfl (by decide) rfl rfl (Nat.le_of_ble_eq_true rfl) dX12_tray_76 ⟨by decide, by decide⟩) rfl rfl rfl (fun r_30 u_28 e_29 => ?_)
              subst e_29
              refine jy_widen (cells' := 0) (slots' := 0) (by decide) (by decide) ?_
              exact jy_zret (v := 1) F hr hlk (by first | rfl | decide) () (Or.inl ⟨rfl, h_3.1, jy_34 h_3.2, h_7, h_11, h_15, Int32.not_lt.mpr h_19⟩) [] rfl (by decide) dX12_tray_79
          · refine jy_aload_n (pc' := 27) F 0 dX12_tray_26 rfl rfl rfl ?_
            refine jy_iconst (pc' := 28) (v := 1) F dX12_tray_27 (by decide) rfl ?_
            refine jy_calli (pc' := 31) (cells' := 0) (slots' := 0) (wr := [(b3, .inl (k.2.1, 4, .inl fq)), (b4, .inl (k.2.1, 4, .inl fm)), (b5, .inl (k.2.2.1, 240, .inr (.inl gv)))]) hA [0] [1, 2, 3] rfl rfl (by decide) (by decide) (jy_runV (As := [.int 1]) (b := m0) (q0 := 0) (ci := 11) (C := RX12) (T := TX12) (N := 51) (st := []) F hN (fun sz => c_X12_is_1 l D k m0 0 (.ref b1) (.ref b2) (.long 0) (.long 1) (.ref b3) (.ref b4) (.ref b5) (.ref b6) (.ref b7) (.int 0) (.int 0) (.int 0) (.int 0) (.int 0) (.int 0) (.int (-1)) (.int (-1)) (.int 0) (.int 0) (.ref w0) (.ref w1) (.ref w2) (.ref w3) (.ref w4) (.ref w5) (.ref w6) (.ref w7) (.ref w8) (.ref w9) (.int 0) (.int 0) (.int 0) (.ref w10) (.ref w11) (.int 0) (.ref w12) (.ref w13) (.ref w14) (.ref w15) (.ref w16) (.ref w17) (.ref w18) (.ref w19) (.ref w20) (.int 0) (.ref w21) (.ref w22) (.int 0) (.int 0) (.int 0) sz ) (jy_cV F g_c_X12_tray_c_X12_is_1 rfl hdX12_is (List.mem_of_getElem? (i := 2) rfl) (List.mem_of_getElem? (i := 9) rfl) (List.mem_of_getElem? (i := 7) rfl) (List.mem_of_getElem? (i := 8) rfl) rfl rfl ⟨by decide, by decide⟩) rfl rfl [0] rfl (by decide) rfl rfl (Nat.le_of_ble_eq_true rfl) dX12_tray_28 ⟨by decide, by decide⟩) rfl rfl rfl (fun r_33 u_31 e_32 => ?_)
            subst e_32
            refine jy_widen (cells' := 0) (slots' := 0) (by decide) (by decide) ?_
            exact jy_zret (v := 0) F hr hlk (by first | rfl | decide) () (Or.inr ⟨rfl, fun C => h_19 (Int32.not_lt.mp C.2.2.2.2.2)⟩) [] rfl (by decide) dX12_tray_31
  · subst z_5
    refine jy_if_eq (pc' := 7) (tgt := 26) F dX12_tray_4 (by decide) rfl (fun _ => ?_) (fun h => absurd h (by decide))
    refine jy_aload_n (pc' := 27) F 0 dX12_tray_26 rfl rfl rfl ?_
    refine jy_iconst (pc' := 28) (v := 1) F dX12_tray_27 (by decide) rfl ?_
    refine jy_calli (pc' := 31) (cells' := 0) (slots' := 0) (wr := [(b3, .inl (k.2.1, 4, .inl fq)), (b4, .inl (k.2.1, 4, .inl fm)), (b5, .inl (k.2.2.1, 240, .inr (.inl gv)))]) hA [0] [1, 2, 3] rfl rfl (by decide) (by decide) (jy_runV (As := [.int 1]) (b := m0) (q0 := 0) (ci := 11) (C := RX12) (T := TX12) (N := 51) (st := []) F hN (fun sz => c_X12_is_1 l D k m0 0 (.ref b1) (.ref b2) (.long 0) (.long 1) (.ref b3) (.ref b4) (.ref b5) (.ref b6) (.ref b7) (.int 0) (.int 0) (.int 0) (.int 0) (.int 0) (.int 0) (.int (-1)) (.int (-1)) (.int 0) (.int 0) (.ref w0) (.ref w1) (.ref w2) (.ref w3) (.ref w4) (.ref w5) (.ref w6) (.ref w7) (.ref w8) (.ref w9) (.int 0) (.int 0) (.int 0) (.ref w10) (.ref w11) (.int 0) (.ref w12) (.ref w13) (.ref w14) (.ref w15) (.ref w16) (.ref w17) (.ref w18) (.ref w19) (.ref w20) (.int 0) (.ref w21) (.ref w22) (.int 0) (.int 0) (.int 0) sz ) (jy_cV F g_c_X12_tray_c_X12_is_1 rfl hdX12_is (List.mem_of_getElem? (i := 2) rfl) (List.mem_of_getElem? (i := 9) rfl) (List.mem_of_getElem? (i := 7) rfl) (List.mem_of_getElem? (i := 8) rfl) rfl rfl ⟨by decide, by decide⟩) rfl rfl [0] rfl (by decide) rfl rfl (Nat.le_of_ble_eq_true rfl) dX12_tray_28 ⟨by decide, by decide⟩) rfl rfl rfl (fun r_37 u_35 e_36 => ?_)
    subst e_36
    refine jy_widen (cells' := 0) (slots' := 0) (by decide) (by decide) ?_
    exact jy_zret (v := 0) F hr hlk (by first | rfl | decide) () (Or.inr ⟨rfl, fun C => h_3.elim C.1 (fun h => jy_43 h C.2.1)⟩) [] rfl (by decide) dX12_tray_31
abbrev cX12_copies : ByteArray := prog_14_method_152_code
def yX12_copies : MethodName := ⟨RX12, "copies", "(II)V"⟩
theorem hdX12_copies : yX12_copies.cls ≠ "java/lang/invoke/MethodHandle" ∧ yX12_copies.cls ≠ "java/lang/invoke/VarHandle" ∧ (parseMethodDescriptor yX12_copies.desc).map (fun d => d.parameters.length) = some 2 := by decide +kernel
theorem dX12_copies_0 : decode cX12_copies 0 = .ok (.iconst 0, 1) := by decide +kernel
theorem dX12_copies_1 : decode cX12_copies 1 = .ok (.istore_n 3, 1) := by decide +kernel
theorem dX12_copies_2 : decode cX12_copies 2 = .ok (.iload_n 3, 1) := by decide +kernel
theorem dX12_copies_3 : decode cX12_copies 3 = .ok (.sipush 272, 3) := by decide +kernel
theorem dX12_copies_6 : decode cX12_copies 6 = .ok (.if_icmp .ge 33, 3) := by decide +kernel
theorem dX12_copies_9 : decode cX12_copies 9 = .ok (.aload_n 0, 1) := by decide +kernel
theorem dX12_copies_10 : decode cX12_copies 10 = .ok (.getfield 7, 3) := by decide +kernel
theorem dX12_copies_13 : decode cX12_copies 13 = .ok (.sipush 272, 3) := by decide +kernel
theorem dX12_copies_16 : decode cX12_copies 16 = .ok (.iload_n 2, 1) := by decide +kernel
theorem dX12_copies_17 : decode cX12_copies 17 = .ok (.imul, 1) := by decide +kernel
theorem dX12_copies_18 : decode cX12_copies 18 = .ok (.iload_n 3, 1) := by decide +kernel
theorem dX12_copies_19 : decode cX12_copies 19 = .ok (.iadd, 1) := by decide +kernel
theorem dX12_copies_20 : decode cX12_copies 20 = .ok (.aload_n 0, 1) := by decide +kernel
theorem dX12_copies_21 : decode cX12_copies 21 = .ok (.getfield 7, 3) := by decide +kernel
theorem dX12_copies_24 : decode cX12_copies 24 = .ok (.sipush 272, 3) := by decide +kernel
theorem dX12_copies_27 : decode cX12_copies 27 = .ok (.iload_n 1, 1) := by decide +kernel
theorem dX12_copies_28 : decode cX12_copies 28 = .ok (.imul, 1) := by decide +kernel
theorem dX12_copies_29 : decode cX12_copies 29 = .ok (.iload_n 3, 1) := by decide +kernel
theorem dX12_copies_30 : decode cX12_copies 30 = .ok (.iadd, 1) := by decide +kernel
theorem dX12_copies_31 : decode cX12_copies 31 = .ok (.iaload, 1) := by decide +kernel
theorem dX12_copies_32 : decode cX12_copies 32 = .ok (.iastore, 1) := by decide +kernel
theorem dX12_copies_33 : decode cX12_copies 33 = .ok (.iinc 3 1, 3) := by decide +kernel
theorem dX12_copies_36 : decode cX12_copies 36 = .ok (.goto (-34), 3) := by decide +kernel
theorem dX12_copies_39 : decode cX12_copies 39 = .ok (.iconst 0, 1) := by decide +kernel
theorem dX12_copies_40 : decode cX12_copies 40 = .ok (.istore_n 3, 1) := by decide +kernel
theorem dX12_copies_41 : decode cX12_copies 41 = .ok (.iload_n 3, 1) := by decide +kernel
theorem dX12_copies_42 : decode cX12_copies 42 = .ok (.bipush 6, 2) := by decide +kernel
theorem dX12_copies_44 : decode cX12_copies 44 = .ok (.if_icmp .ge 31, 3) := by decide +kernel
theorem dX12_copies_47 : decode cX12_copies 47 = .ok (.aload_n 0, 1) := by decide +kernel
theorem dX12_copies_48 : decode cX12_copies 48 = .ok (.getfield 13, 3) := by decide +kernel
theorem dX12_copies_51 : decode cX12_copies 51 = .ok (.bipush 6, 2) := by decide +kernel
theorem dX12_copies_53 : decode cX12_copies 53 = .ok (.iload_n 2, 1) := by decide +kernel
theorem dX12_copies_54 : decode cX12_copies 54 = .ok (.imul, 1) := by decide +kernel
theorem dX12_copies_55 : decode cX12_copies 55 = .ok (.iload_n 3, 1) := by decide +kernel
theorem dX12_copies_56 : decode cX12_copies 56 = .ok (.iadd, 1) := by decide +kernel
theorem dX12_copies_57 : decode cX12_copies 57 = .ok (.aload_n 0, 1) := by decide +kernel
theorem dX12_copies_58 : decode cX12_copies 58 = .ok (.getfield 13, 3) := by decide +kernel
theorem dX12_copies_61 : decode cX12_copies 61 = .ok (.bipush 6, 2) := by decide +kernel
theorem dX12_copies_63 : decode cX12_copies 63 = .ok (.iload_n 1, 1) := by decide +kernel
theorem dX12_copies_64 : decode cX12_copies 64 = .ok (.imul, 1) := by decide +kernel
theorem dX12_copies_65 : decode cX12_copies 65 = .ok (.iload_n 3, 1) := by decide +kernel
theorem dX12_copies_66 : decode cX12_copies 66 = .ok (.iadd, 1) := by decide +kernel
theorem dX12_copies_67 : decode cX12_copies 67 = .ok (.laload, 1) := by decide +kernel
theorem dX12_copies_68 : decode cX12_copies 68 = .ok (.lastore, 1) := by decide +kernel
theorem dX12_copies_69 : decode cX12_copies 69 = .ok (.iinc 3 1, 3) := by decide +kernel
theorem dX12_copies_72 : decode cX12_copies 72 = .ok (.goto (-31), 3) := by decide +kernel
theorem dX12_copies_75 : decode cX12_copies 75 = .ok (.return_, 1) := by decide +kernel
def ws_c_X12_copies : List Cond := .code yX12_copies cX12_copies 4 none :: ([.fieldLink "NestedCheckerModel" 7 "NestedCheckerModel" "at" "[I", .fieldLink "NestedCheckerModel" 13 "NestedCheckerModel" "names" "[J"] ++ wsX120)
set_option maxHeartbeats 4000000 in
set_option maxRecDepth 100000 in
theorem c_X12_copies (l : Launch) (D : va_G) (k : jK) (m0 : Nat) (b1 : Nat) (b2 : Nat) (b3 : Nat) (b4 : Nat) (b5 : Nat) (b6 : Nat) (b7 : Nat) (w0 : Nat) (w1 : Nat) (w2 : Nat) (w3 : Nat) (w4 : Nat) (w5 : Nat) (w6 : Nat) (w7 : Nat) (w8 : Nat) (w9 : Nat) (w10 : Nat) (w11 : Nat) (w12 : Nat) (w13 : Nat) (w14 : Nat) (w15 : Nat) (w16 : Nat) (w17 : Nat) (w18 : Nat) (w19 : Nat) (w20 : Nat) (w21 : Nat) (w22 : Nat) (fa : Nat → Int32) (fn : Nat → Int64) (sz : Nat)  : Met l yX12_copies ws_c_X12_copies ({ frames := 0, cells := 0, slots := 0, locals := 0 }) (jy_P [.ref m0, .int 0, .int 1] D vwCl (jT k) jW [(m0, .inr (11, [.ref b1, .ref b2, .int 0, .long 0, .long 1, .ref b3, .ref b4, .ref b5, .ref b6, .ref b7, .int 0, .int 0, .int 0, .int 0, .int 0, .int 0, .int (-1), .int (-1), .int 0, .int 0, .ref w0, .ref w1, .ref w2, .ref w3, .ref w4, .ref w5, .ref w6, .ref w7, .ref w8, .ref w9, .int 0, .int 0, .int 0, .ref w10, .ref w11, .int 0, .ref w12, .ref w13, .ref w14, .ref w15, .ref w16, .ref w17, .ref w18, .ref w19, .ref w20, .int 0, .ref w21, .ref w22, .int 0, .int 0, .int 1])), (b1, .inl (k.2.1, 1360, .inl fa)), (b2, .inl (k.2.2.1, 36, .inr (.inl fn)))] sz) (va_Qv (fun (u : Unit) => True) (jy_B D vwCl (va_A [(m0, .inr (11, [.ref b1, .ref b2, .int 0, .long 0, .long 1, .ref b3, .ref b4, .ref b5, .ref b6, .ref b7, .int 0, .int 0, .int 0, .int 0, .int 0, .int 0, .int (-1), .int (-1), .int 0, .int 0, .ref w0, .ref w1, .ref w2, .ref w3, .ref w4, .ref w5, .ref w6, .ref w7, .ref w8, .ref w9, .int 0, .int 0, .int 0, .ref w10, .ref w11, .int 0, .ref w12, .ref w13, .ref w14, .ref w15, .ref w16, .ref w17, .ref w18, .ref w19, .ref w20, .int 0, .ref w21, .ref w22, .int 0, .int 0, .int 1])), (b1, .inl (k.2.1, 1360, .inl fa)), (b2, .inl (k.2.2.1, 36, .inr (.inl fn)))] sz) (fun (u : Unit) => [(m0, .inr (11, [.ref b1, .ref b2, .int 0, .long 0, .long 1, .ref b3, .ref b4, .ref b5, .ref b6, .ref b7, .int 0, .int 0, .int 0, .int 0, .int 0, .int 0, .int (-1), .int (-1), .int 0, .int 0, .ref w0, .ref w1, .ref w2, .ref w3, .ref w4, .ref w5, .ref w6, .ref w7, .ref w8, .ref w9, .int 0, .int 0, .int 0, .ref w10, .ref w11, .int 0, .ref w12, .ref w13, .ref w14, .ref w15, .ref w16, .ref w17, .ref w18, .ref w19, .ref w20, .int 0, .ref w21, .ref w22, .int 0, .int 0, .int 1]))])) (va_A [(m0, .inr (11, [.ref b1, .ref b2, .int 0, .long 0, .long 1, .ref b3, .ref b4, .ref b5, .ref b6, .ref b7, .int 0, .int 0, .int 0, .int 0, .int 0, .int 0, .int (-1), .int (-1), .int 0, .int 0, .ref w0, .ref w1, .ref w2, .ref w3, .ref w4, .ref w5, .ref w6, .ref w7, .ref w8, .ref w9, .int 0, .int 0, .int 0, .ref w10, .ref w11, .int 0, .ref w12, .ref w13, .ref w14, .ref w15, .ref w16, .ref w17, .ref w18, .ref w19, .ref w20, .int 0, .ref w21, .ref w22, .int 0, .int 0, .int 1])), (b1, .inl (k.2.1, 1360, .inl fa)), (b2, .inl (k.2.2.1, 36, .inr (.inl fn)))] sz)) 0 0 (va_A [(m0, .inr (11, [.ref b1, .ref b2, .int 0, .long 0, .long 1, .ref b3, .ref b4, .ref b5, .ref b6, .ref b7, .int 0, .int 0, .int 0, .int 0, .int 0, .int 0, .int (-1), .int (-1), .int 0, .int 0, .ref w0, .ref w1, .ref w2, .ref w3, .ref w4, .ref w5, .ref w6, .ref w7, .ref w8, .ref w9, .int 0, .int 0, .int 0, .ref w10, .ref w11, .int 0, .ref w12, .ref w13, .ref w14, .ref w15, .ref w16, .ref w17, .ref w18, .ref w19, .ref w20, .int 0, .ref w21, .ref w22, .int 0, .int 0, .int 1])), (b1, .inl (k.2.1, 1360, .inl fa)), (b2, .inl (k.2.2.1, 36, .inr (.inl fn)))] sz) := by
  refine jy_met (cc := cX12_copies) (maxL := 4) (ret := none) (lv := [(0, .ref m0), (1, .int 0), (2, .int 1)]) (by decide) rfl (Nat.le_of_ble_eq_true rfl) rfl ?_
  intro p e s m below meth c F hr hlk hnm hN hA
  have hiX12 : ∀ w ∈ u_ws RX12 TX12 51, w ∈ ws_c_X12_copies := fun w hw => List.mem_cons_of_mem _ (List.mem_append_right _ hw)
  refine jy_iconst (pc' := 1) (v := 0) F dX12_copies_0 (by decide) rfl ?_
  refine jy_istore_n (pc' := 2) (lv' := [(3, .int 0), (0, .ref m0), (1, .int 0), (2, .int 1)]) F dX12_copies_1 rfl (by decide) rfl rfl ?_
  refine jy_lpick (lv' := [(3, .int 0), (0, .ref m0), (1, .int 0), (2, .int 1)]) [0, 1, 2, 3] rfl ?_
  refine jy_loop (α := (Nat → Int32)) (ws := fun i_1 a_3 => [(m0, .inr (11, [.ref b1, .ref b2, .int 0, .long 0, .long 1, .ref b3, .ref b4, .ref b5, .ref b6, .ref b7, .int 0, .int 0, .int 0, .int 0, .int 0, .int 0, .int (-1), .int (-1), .int 0, .int 0, .ref w0, .ref w1, .ref w2, .ref w3, .ref w4, .ref w5, .ref w6, .ref w7, .ref w8, .ref w9, .int 0, .int 0, .int 0, .ref w10, .ref w11, .int 0, .ref w12, .ref w13, .ref w14, .ref w15, .ref w16, .ref w17, .ref w18, .ref w19, .ref w20, .int 0, .ref w21, .ref w22, .int 0, .int 0, .int 1])), (b1, .inl (k.2.1, 1360, .inl a_3)), (b2, .inl (k.2.2.1, 36, .inr (.inl fn)))]) (lv := fun i_1 a_3 => [(3, .int (nI i_1)), (0, .ref m0), (1, .int 0), (2, .int 1)]) (I := fun i_1 a_3 => True) (hi := 272) (i0 := 0) (a0 := (fa)) (by omega) (trivial) ?_ ?_
  · rintro i_1 f_2 h_4 hv_6 ih_5
    refine jy_ws (ws' := [(m0, .inr (11, [.ref b1, .ref b2, .int 0, .long 0, .long 1, .ref b3, .ref b4, .ref b5, .ref b6, .ref b7, .int 0, .int 0, .int 0, .int 0, .int 0, .int 0, .int (-1), .int (-1), .int 0, .int 0, .ref w0, .ref w1, .ref w2, .ref w3, .ref w4, .ref w5, .ref w6, .ref w7, .ref w8, .ref w9, .int 0, .int 0, .int 0, .ref w10, .ref w11, .int 0, .ref w12, .ref w13, .ref w14, .ref w15, .ref w16, .ref w17, .ref w18, .ref w19, .ref w20, .int 0, .ref w21, .ref w22, .int 0, .int 0, .int 1])), (b1, .inl (k.2.1, 1360, .inl f_2)), (b2, .inl (k.2.2.1, 36, .inr (.inl fn)))]) rfl ?_
    refine jy_iload_n (pc' := 3) F 0 dX12_copies_2 rfl rfl rfl ?_
    refine jy_sipush (pc' := 6) (v := 272) F dX12_copies_3 (by decide) rfl ?_
    refine jy_icmp_ge (pc' := 9) (tgt := 39) F dX12_copies_6 (by decide) rfl (fun h => absurd h (nI_ge (a := i_1) (b := 272) (by omega) (by omega))) (fun _ => ?_)
    refine jy_aload_n (pc' := 10) F 1 dX12_copies_9 rfl rfl rfl ?_
    refine jy_get (pc' := 13) (C := RX12) (T := TX12) (N := 51) (ci := 11) (v := .ref b1) F hiX12 0 rfl rfl 0 (by decide) dX12_copies_10 (List.mem_of_getElem? (i := 1) rfl) rfl rfl ?_
    refine jy_sipush (pc' := 16) (v := 272) F dX12_copies_13 (by decide) rfl ?_
    refine jy_iload_n (pc' := 17) F 3 dX12_copies_16 rfl rfl rfl ?_
    refine jy_imul (pc' := 18) (v := 272) F dX12_copies_17 (by decide) rfl ?_
    refine jy_iload_n (pc' := 19) F 0 dX12_copies_18 rfl rfl rfl ?_
    refine jy_iadd (pc' := 20) (v := (nI (272 + i_1))) F dX12_copies_19 (nI_add 272 i_1) rfl ?_
    refine jy_aload_n (pc' := 21) F 1 dX12_copies_20 rfl rfl rfl ?_
    refine jy_get (pc' := 24) (C := RX12) (T := TX12) (N := 51) (ci := 11) (v := .ref b1) F hiX12 0 rfl rfl 0 (by decide) dX12_copies_21 (List.mem_of_getElem? (i := 1) rfl) rfl rfl ?_
    refine jy_sipush (pc' := 27) (v := 272) F dX12_copies_24 (by decide) rfl ?_
    refine jy_iload_n (pc' := 28) F 2 dX12_copies_27 rfl rfl rfl ?_
    refine jy_imul (pc' := 29) (v := 0) F dX12_copies_28 (by decide) rfl ?_
    refine jy_iload_n (pc' := 30) F 0 dX12_copies_29 rfl rfl rfl ?_
    refine jy_iadd (pc' := 31) (v := (nI (0 + i_1))) F dX12_copies_30 (nI_add 0 i_1) rfl ?_
    refine jy_iald (pc' := 32) (v := (f_2 (0 + i_1))) F 1 1 rfl rfl dX12_copies_31 (vp_in_nI (n := 0 + i_1) (by omega) (by omega)) (by rw [nI_clamp (by omega)]) rfl ?_
    refine jy_iast (pc' := 33) (g := (upd f_2 (272 + i_1) (f_2 (0 + i_1)))) (ws' := [(m0, .inr (11, [.ref b1, .ref b2, .int 0, .long 0, .long 1, .ref b3, .ref b4, .ref b5, .ref b6, .ref b7, .int 0, .int 0, .int 0, .int 0, .int 0, .int 0, .int (-1), .int (-1), .int 0, .int 0, .ref w0, .ref w1, .ref w2, .ref w3, .ref w4, .ref w5, .ref w6, .ref w7, .ref w8, .ref w9, .int 0, .int 0, .int 0, .ref w10, .ref w11, .int 0, .ref w12, .ref w13, .ref w14, .ref w15, .ref w16, .ref w17, .ref w18, .ref w19, .ref w20, .int 0, .ref w21, .ref w22, .int 0, .int 0, .int 1])), (b1, .inl (k.2.1, 1360, .inl (upd f_2 (272 + i_1) (f_2 (0 + i_1))))), (b2, .inl (k.2.2.1, 36, .inr (.inl fn)))]) F 1 1 rfl rfl dX12_copies_32 (vp_in_nI (n := 272 + i_1) (by omega) (by omega)) (by rw [nI_clamp (by omega)]) rfl rfl ?_
    refine jy_iinc (pc' := 36) (v := (nI (i_1 + 1))) (lv' := [(3, .int (nI (i_1 + 1))), (0, .ref m0), (1, .int 0), (2, .int 1)]) F 0 dX12_copies_33 rfl (nI_add i_1 1) (by decide) rfl rfl ?_
    refine jy_goto (tgt := 2) F dX12_copies_36 (by decide) ?_
    refine jy_lpick (lv' := [(3, .int (nI (i_1 + 1))), (0, .ref m0), (1, .int 0), (2, .int 1)]) [0, 1, 2, 3] rfl ?_
    exact ih_5 ((upd f_2 (272 + i_1) (f_2 (0 + i_1)))) (trivial)
  · rintro f_2 hv_6
    refine jy_ws (ws' := [(m0, .inr (11, [.ref b1, .ref b2, .int 0, .long 0, .long 1, .ref b3, .ref b4, .ref b5, .ref b6, .ref b7, .int 0, .int 0, .int 0, .int 0, .int 0, .int 0, .int (-1), .int (-1), .int 0, .int 0, .ref w0, .ref w1, .ref w2, .ref w3, .ref w4, .ref w5, .ref w6, .ref w7, .ref w8, .ref w9, .int 0, .int 0, .int 0, .ref w10, .ref w11, .int 0, .ref w12, .ref w13, .ref w14, .ref w15, .ref w16, .ref w17, .ref w18, .ref w19, .ref w20, .int 0, .ref w21, .ref w22, .int 0, .int 0, .int 1])), (b1, .inl (k.2.1, 1360, .inl f_2)), (b2, .inl (k.2.2.1, 36, .inr (.inl fn)))]) rfl ?_
    refine jy_iload_n (pc' := 3) F 0 dX12_copies_2 rfl rfl rfl ?_
    refine jy_sipush (pc' := 6) (v := 272) F dX12_copies_3 (by decide) rfl ?_
    refine jy_icmp_ge (pc' := 9) (tgt := 39) F dX12_copies_6 (by decide) rfl (fun _ => ?_) (fun h => absurd (nI_le (a := 272) (b := 272) (by omega) (by omega)) h)
    refine jy_iconst (pc' := 40) (v := 0) F dX12_copies_39 (by decide) rfl ?_
    refine jy_istore_n (pc' := 41) (lv' := [(3, .int 0), (0, .ref m0), (1, .int 0), (2, .int 1)]) F dX12_copies_40 rfl (by decide) rfl rfl ?_
    refine jy_lpick (lv' := [(3, .int 0), (0, .ref m0), (1, .int 0), (2, .int 1)]) [0, 1, 2, 3] rfl ?_
    refine jy_loop (α := (Nat → Int64)) (ws := fun i_9 a_11 => [(m0, .inr (11, [.ref b1, .ref b2, .int 0, .long 0, .long 1, .ref b3, .ref b4, .ref b5, .ref b6, .ref b7, .int 0, .int 0, .int 0, .int 0, .int 0, .int 0, .int (-1), .int (-1), .int 0, .int 0, .ref w0, .ref w1, .ref w2, .ref w3, .ref w4, .ref w5, .ref w6, .ref w7, .ref w8, .ref w9, .int 0, .int 0, .int 0, .ref w10, .ref w11, .int 0, .ref w12, .ref w13, .ref w14, .ref w15, .ref w16, .ref w17, .ref w18, .ref w19, .ref w20, .int 0, .ref w21, .ref w22, .int 0, .int 0, .int 1])), (b1, .inl (k.2.1, 1360, .inl f_2)), (b2, .inl (k.2.2.1, 36, .inr (.inl a_11)))]) (lv := fun i_9 a_11 => [(3, .int (nI i_9)), (0, .ref m0), (1, .int 0), (2, .int 1)]) (I := fun i_9 a_11 => True) (hi := 6) (i0 := 0) (a0 := (fn)) (by omega) (trivial) ?_ ?_
    · rintro i_9 f_10 h_12 hv_14 ih_13
      refine jy_ws (ws' := [(m0, .inr (11, [.ref b1, .ref b2, .int 0, .long 0, .long 1, .ref b3, .ref b4, .ref b5, .ref b6, .ref b7, .int 0, .int 0, .int 0, .int 0, .int 0, .int 0, .int (-1), .int (-1), .int 0, .int 0, .ref w0, .ref w1, .ref w2, .ref w3, .ref w4, .ref w5, .ref w6, .ref w7, .ref w8, .ref w9, .int 0, .int 0, .int 0, .ref w10, .ref w11, .int 0, .ref w12, .ref w13, .ref w14, .ref w15, .ref w16, .ref w17, .ref w18, .ref w19, .ref w20, .int 0, .ref w21, .ref w22, .int 0, .int 0, .int 1])), (b1, .inl (k.2.1, 1360, .inl f_2)), (b2, .inl (k.2.2.1, 36, .inr (.inl f_10)))]) rfl ?_
      refine jy_iload_n (pc' := 42) F 0 dX12_copies_41 rfl rfl rfl ?_
      refine jy_bipush (pc' := 44) (v := 6) F dX12_copies_42 (by decide) rfl ?_
      refine jy_icmp_ge (pc' := 47) (tgt := 75) F dX12_copies_44 (by decide) rfl (fun h => absurd h (nI_ge (a := i_9) (b := 6) (by omega) (by omega))) (fun _ => ?_)
      refine jy_aload_n (pc' := 48) F 1 dX12_copies_47 rfl rfl rfl ?_
      refine jy_get (pc' := 51) (C := RX12) (T := TX12) (N := 51) (ci := 11) (v := .ref b2) F hiX12 0 rfl rfl 1 (by decide) dX12_copies_48 (List.mem_of_getElem? (i := 2) rfl) rfl rfl ?_
      refine jy_bipush (pc' := 53) (v := 6) F dX12_copies_51 (by decide) rfl ?_
      refine jy_iload_n (pc' := 54) F 3 dX12_copies_53 rfl rfl rfl ?_
      refine jy_imul (pc' := 55) (v := 6) F dX12_copies_54 (by decide) rfl ?_
      refine jy_iload_n (pc' := 56) F 0 dX12_copies_55 rfl rfl rfl ?_
      refine jy_iadd (pc' := 57) (v := (nI (6 + i_9))) F dX12_copies_56 (nI_add 6 i_9) rfl ?_
      refine jy_aload_n (pc' := 58) F 1 dX12_copies_57 rfl rfl rfl ?_
      refine jy_get (pc' := 61) (C := RX12) (T := TX12) (N := 51) (ci := 11) (v := .ref b2) F hiX12 0 rfl rfl 1 (by decide) dX12_copies_58 (List.mem_of_getElem? (i := 2) rfl) rfl rfl ?_
      refine jy_bipush (pc' := 63) (v := 6) F dX12_copies_61 (by decide) rfl ?_
      refine jy_iload_n (pc' := 64) F 2 dX12_copies_63 rfl rfl rfl ?_
      refine jy_imul (pc' := 65) (v := 0) F dX12_copies_64 (by decide) rfl ?_
      refine jy_iload_n (pc' := 66) F 0 dX12_copies_65 rfl rfl rfl ?_
      refine jy_iadd (pc' := 67) (v := (nI (0 + i_9))) F dX12_copies_66 (nI_add 0 i_9) rfl ?_
      refine jy_lald (pc' := 68) (v := (f_10 (0 + i_9))) F 2 2 rfl rfl dX12_copies_67 (vp_in_nI (n := 0 + i_9) (by omega) (by omega)) (by rw [nI_clamp (by omega)]) rfl ?_
      refine jy_last (pc' := 69) (g := (vp_updL f_10 (6 + i_9) (f_10 (0 + i_9)))) (ws' := [(m0, .inr (11, [.ref b1, .ref b2, .int 0, .long 0, .long 1, .ref b3, .ref b4, .ref b5, .ref b6, .ref b7, .int 0, .int 0, .int 0, .int 0, .int 0, .int 0, .int (-1), .int (-1), .int 0, .int 0, .ref w0, .ref w1, .ref w2, .ref w3, .ref w4, .ref w5, .ref w6, .ref w7, .ref w8, .ref w9, .int 0, .int 0, .int 0, .ref w10, .ref w11, .int 0, .ref w12, .ref w13, .ref w14, .ref w15, .ref w16, .ref w17, .ref w18, .ref w19, .ref w20, .int 0, .ref w21, .ref w22, .int 0, .int 0, .int 1])), (b1, .inl (k.2.1, 1360, .inl f_2)), (b2, .inl (k.2.2.1, 36, .inr (.inl (vp_updL f_10 (6 + i_9) (f_10 (0 + i_9))))))]) F 2 2 rfl rfl dX12_copies_68 (vp_in_nI (n := 6 + i_9) (by omega) (by omega)) (by rw [nI_clamp (by omega)]) rfl rfl ?_
      refine jy_iinc (pc' := 72) (v := (nI (i_9 + 1))) (lv' := [(3, .int (nI (i_9 + 1))), (0, .ref m0), (1, .int 0), (2, .int 1)]) F 0 dX12_copies_69 rfl (nI_add i_9 1) (by decide) rfl rfl ?_
      refine jy_goto (tgt := 41) F dX12_copies_72 (by decide) ?_
      refine jy_lpick (lv' := [(3, .int (nI (i_9 + 1))), (0, .ref m0), (1, .int 0), (2, .int 1)]) [0, 1, 2, 3] rfl ?_
      exact ih_13 ((vp_updL f_10 (6 + i_9) (f_10 (0 + i_9)))) (trivial)
    · rintro f_10 hv_14
      refine jy_ws (ws' := [(m0, .inr (11, [.ref b1, .ref b2, .int 0, .long 0, .long 1, .ref b3, .ref b4, .ref b5, .ref b6, .ref b7, .int 0, .int 0, .int 0, .int 0, .int 0, .int 0, .int (-1), .int (-1), .int 0, .int 0, .ref w0, .ref w1, .ref w2, .ref w3, .ref w4, .ref w5, .ref w6, .ref w7, .ref w8, .ref w9, .int 0, .int 0, .int 0, .ref w10, .ref w11, .int 0, .ref w12, .ref w13, .ref w14, .ref w15, .ref w16, .ref w17, .ref w18, .ref w19, .ref w20, .int 0, .ref w21, .ref w22, .int 0, .int 0, .int 1])), (b1, .inl (k.2.1, 1360, .inl f_2)), (b2, .inl (k.2.2.1, 36, .inr (.inl f_10)))]) rfl ?_
      refine jy_iload_n (pc' := 42) F 0 dX12_copies_41 rfl rfl rfl ?_
      refine jy_bipush (pc' := 44) (v := 6) F dX12_copies_42 (by decide) rfl ?_
      refine jy_icmp_ge (pc' := 47) (tgt := 75) F dX12_copies_44 (by decide) rfl (fun _ => ?_) (fun h => absurd (nI_le (a := 6) (b := 6) (by omega) (by omega)) h)
      refine jy_widen (cells' := 0) (slots' := 0) (by decide) (by decide) ?_
      exact jy_vret F hr hlk () (trivial) [0] rfl (by decide) dX12_copies_75
abbrev cX12_mark : ByteArray := prog_14_method_153_code
def yX12_mark : MethodName := ⟨RX12, "mark", "()I"⟩
theorem hdX12_mark : yX12_mark.cls ≠ "java/lang/invoke/MethodHandle" ∧ yX12_mark.cls ≠ "java/lang/invoke/VarHandle" ∧ (parseMethodDescriptor yX12_mark.desc).map (fun d => d.parameters.length) = some 0 := by decide +kernel
theorem dX12_mark_0 : decode cX12_mark 0 = .ok (.aload_n 0, 1) := by decide +kernel
theorem dX12_mark_1 : decode cX12_mark 1 = .ok (.getfield 535, 3) := by decide +kernel
theorem dX12_mark_4 : decode cX12_mark 4 = .ok (.iconst 3, 1) := by decide +kernel
theorem dX12_mark_5 : decode cX12_mark 5 = .ok (.if_icmp .ne 9, 3) := by decide +kernel
theorem dX12_mark_14 : decode cX12_mark 14 = .ok (.aload_n 0, 1) := by decide +kernel
theorem dX12_mark_15 : decode cX12_mark 15 = .ok (.dup, 1) := by decide +kernel
theorem dX12_mark_16 : decode cX12_mark 16 = .ok (.getfield 535, 3) := by decide +kernel
theorem dX12_mark_19 : decode cX12_mark 19 = .ok (.iconst 1, 1) := by decide +kernel
theorem dX12_mark_20 : decode cX12_mark 20 = .ok (.iadd, 1) := by decide +kernel
theorem dX12_mark_21 : decode cX12_mark 21 = .ok (.putfield 535, 3) := by decide +kernel
theorem dX12_mark_24 : decode cX12_mark 24 = .ok (.aload_n 0, 1) := by decide +kernel
theorem dX12_mark_25 : decode cX12_mark 25 = .ok (.iconst 0, 1) := by decide +kernel
theorem dX12_mark_26 : decode cX12_mark 26 = .ok (.aload_n 0, 1) := by decide +kernel
theorem dX12_mark_27 : decode cX12_mark 27 = .ok (.getfield 535, 3) := by decide +kernel
theorem dX12_mark_30 : decode cX12_mark 30 = .ok (.invokevirtual 538, 3) := by decide +kernel
theorem dX12_mark_33 : decode cX12_mark 33 = .ok (.aload_n 0, 1) := by decide +kernel
theorem dX12_mark_34 : decode cX12_mark 34 = .ok (.aload_n 0, 1) := by decide +kernel
theorem dX12_mark_35 : decode cX12_mark 35 = .ok (.getfield 535, 3) := by decide +kernel
theorem dX12_mark_38 : decode cX12_mark 38 = .ok (.invokevirtual 127, 3) := by decide +kernel
theorem dX12_mark_41 : decode cX12_mark 41 = .ok (.ireturn, 1) := by decide +kernel
def ws_c_X12_mark : List Cond := .code yX12_mark cX12_mark 1 (some .int) :: ([.fieldLink "NestedCheckerModel" 535 "NestedCheckerModel" "marks" "I", .code ⟨"NestedCheckerModel", "copies", "(II)V"⟩ cX12_copies 4 none, .fieldLink "NestedCheckerModel" 7 "NestedCheckerModel" "at" "[I", .fieldLink "NestedCheckerModel" 13 "NestedCheckerModel" "names" "[J", .initialized "NestedCheckerModel", .instanceMethod ⟨"NestedCheckerModel", "copies", "(II)V"⟩, .selects "NestedCheckerModel" ⟨"NestedCheckerModel", "copies", "(II)V"⟩ ⟨"NestedCheckerModel", "copies", "(II)V"⟩, .methodLink "NestedCheckerModel" 538 ⟨"NestedCheckerModel", "copies", "(II)V"⟩, .code ⟨"NestedCheckerModel", "gives", "(I)I"⟩ cX12_gives 2 (some .int), .fieldLink "NestedCheckerModel" 117 "NestedCheckerModel" "status" "I", .instanceMethod ⟨"NestedCheckerModel", "gives", "(I)I"⟩, .selects "NestedCheckerModel" ⟨"NestedCheckerModel", "gives", "(I)I"⟩ ⟨"NestedCheckerModel", "gives", "(I)I"⟩, .methodLink "NestedCheckerModel" 127 ⟨"NestedCheckerModel", "gives", "(I)I"⟩] ++ wsX120)
set_option maxRecDepth 20000 in
theorem g_c_X12_mark_c_X12_copies : GoodIn ws_c_X12_mark ws_c_X12_copies := goodIn_r _ [2, 3, 4, 14, 15, 16, 17, 18, 19, 20, 21, 22, 23, 24, 25, 26, 27, 28, 29, 30, 31, 32, 33, 34, 35, 36, 37, 38, 39, 40, 41, 42, 43, 44, 45, 46, 47, 48, 49, 50, 51, 52, 53, 54, 55, 56, 57, 58, 59, 60, 61, 62, 63, 64] (by decide +kernel) (by decide +kernel)
set_option maxRecDepth 20000 in
theorem g_c_X12_mark_c_X12_gives : GoodIn ws_c_X12_mark ws_c_X12_gives := goodIn_r _ [9, 10, 14, 15, 16, 17, 18, 19, 20, 21, 22, 23, 24, 25, 26, 27, 28, 29, 30, 31, 32, 33, 34, 35, 36, 37, 38, 39, 40, 41, 42, 43, 44, 45, 46, 47, 48, 49, 50, 51, 52, 53, 54, 55, 56, 57, 58, 59, 60, 61, 62, 63, 64] (by decide +kernel) (by decide +kernel)
set_option maxHeartbeats 4000000 in
set_option maxRecDepth 100000 in
theorem c_X12_mark (l : Launch) (D : va_G) (k : jK) (m0 : Nat) (b1 : Nat) (b2 : Nat) (b3 : Nat) (b4 : Nat) (b5 : Nat) (b6 : Nat) (b7 : Nat) (w0 : Nat) (w1 : Nat) (w2 : Nat) (w3 : Nat) (w4 : Nat) (w5 : Nat) (w6 : Nat) (w7 : Nat) (w8 : Nat) (w9 : Nat) (w10 : Nat) (w11 : Nat) (w12 : Nat) (w13 : Nat) (w14 : Nat) (w15 : Nat) (w16 : Nat) (w17 : Nat) (w18 : Nat) (w19 : Nat) (w20 : Nat) (w21 : Nat) (w22 : Nat) (fa : Nat → Int32) (fn : Nat → Int64) (sz : Nat) (ha : fa 4 = -1 ∧ ∀ j, j ≠ 4 → fa j = 0) : Met l yX12_mark ws_c_X12_mark ({ frames := 1, cells := 0, slots := 0, locals := 23 }) (jy_P [.ref m0] D vwCl (jT k) jW [(m0, .inr (11, [.ref b1, .ref b2, .int 0, .long 0, .long 1, .ref b3, .ref b4, .ref b5, .ref b6, .ref b7, .int 0, .int 0, .int 0, .int 0, .int 0, .int 0, .int (-1), .int (-1), .int 0, .int 0, .ref w0, .ref w1, .ref w2, .ref w3, .ref w4, .ref w5, .ref w6, .ref w7, .ref w8, .ref w9, .int 0, .int 0, .int 0, .ref w10, .ref w11, .int 0, .ref w12, .ref w13, .ref w14, .ref w15, .ref w16, .ref w17, .ref w18, .ref w19, .ref w20, .int 0, .ref w21, .ref w22, .int 0, .int 0, .int 0])), (b1, .inl (k.2.1, 1360, .inl fa)), (b2, .inl (k.2.2.1, 36, .inr (.inl fn)))] sz) (va_Qi (fun (r : Int32) (u : Unit) => r = 1) (jy_B D vwCl (va_A [(m0, .inr (11, [.ref b1, .ref b2, .int 0, .long 0, .long 1, .ref b3, .ref b4, .ref b5, .ref b6, .ref b7, .int 0, .int 0, .int 0, .int 0, .int 0, .int 0, .int (-1), .int (-1), .int 0, .int 0, .ref w0, .ref w1, .ref w2, .ref w3, .ref w4, .ref w5, .ref w6, .ref w7, .ref w8, .ref w9, .int 0, .int 0, .int 0, .ref w10, .ref w11, .int 0, .ref w12, .ref w13, .ref w14, .ref w15, .ref w16, .ref w17, .ref w18, .ref w19, .ref w20, .int 0, .ref w21, .ref w22, .int 0, .int 0, .int 0])), (b1, .inl (k.2.1, 1360, .inl fa)), (b2, .inl (k.2.2.1, 36, .inr (.inl fn)))] sz) (fun (u : Unit) => [])) (va_A [(m0, .inr (11, [.ref b1, .ref b2, .int 0, .long 0, .long 1, .ref b3, .ref b4, .ref b5, .ref b6, .ref b7, .int 0, .int 0, .int 0, .int 0, .int 0, .int 0, .int (-1), .int (-1), .int 0, .int 0, .ref w0, .ref w1, .ref w2, .ref w3, .ref w4, .ref w5, .ref w6, .ref w7, .ref w8, .ref w9, .int 0, .int 0, .int 0, .ref w10, .ref w11, .int 0, .ref w12, .ref w13, .ref w14, .ref w15, .ref w16, .ref w17, .ref w18, .ref w19, .ref w20, .int 0, .ref w21, .ref w22, .int 0, .int 0, .int 0])), (b1, .inl (k.2.1, 1360, .inl fa)), (b2, .inl (k.2.2.1, 36, .inr (.inl fn)))] sz)) 0 0 (va_A [(m0, .inr (11, [.ref b1, .ref b2, .int 0, .long 0, .long 1, .ref b3, .ref b4, .ref b5, .ref b6, .ref b7, .int 0, .int 0, .int 0, .int 0, .int 0, .int 0, .int (-1), .int (-1), .int 0, .int 0, .ref w0, .ref w1, .ref w2, .ref w3, .ref w4, .ref w5, .ref w6, .ref w7, .ref w8, .ref w9, .int 0, .int 0, .int 0, .ref w10, .ref w11, .int 0, .ref w12, .ref w13, .ref w14, .ref w15, .ref w16, .ref w17, .ref w18, .ref w19, .ref w20, .int 0, .ref w21, .ref w22, .int 0, .int 0, .int 0])), (b1, .inl (k.2.1, 1360, .inl fa)), (b2, .inl (k.2.2.1, 36, .inr (.inl fn)))] sz) := by
  refine jy_met (cc := cX12_mark) (maxL := 1) (ret := (some .int)) (lv := [(0, .ref m0)]) (by decide) rfl (Nat.le_of_ble_eq_true rfl) rfl ?_
  intro p e s m below meth c F hr hlk hnm hN hA
  have hiX12 : ∀ w ∈ u_ws RX12 TX12 51, w ∈ ws_c_X12_mark := fun w hw => List.mem_cons_of_mem _ (List.mem_append_right _ hw)
  refine jy_aload_n (pc' := 1) F 0 dX12_mark_0 rfl rfl rfl ?_
  refine jy_get (pc' := 4) (C := RX12) (T := TX12) (N := 51) (ci := 11) (v := .int 0) F hiX12 0 rfl rfl 50 (by decide) dX12_mark_1 (List.mem_of_getElem? (i := 1) rfl) rfl rfl ?_
  refine jy_iconst (pc' := 5) (v := 3) F dX12_mark_4 (by decide) rfl ?_
  refine jy_icmp_ne (pc' := 8) (tgt := 14) F dX12_mark_5 (by decide) rfl (fun _ => ?_) (fun h => absurd h (by decide))
  refine jy_aload_n (pc' := 15) F 0 dX12_mark_14 rfl rfl rfl ?_
  refine jy_dup (pc' := 16) F dX12_mark_15 rfl rfl ?_
  refine jy_get (pc' := 19) (C := RX12) (T := TX12) (N := 51) (ci := 11) (v := .int 0) F hiX12 0 rfl rfl 50 (by decide) dX12_mark_16 (List.mem_of_getElem? (i := 1) rfl) rfl rfl ?_
  refine jy_iconst (pc' := 20) (v := 1) F dX12_mark_19 (by decide) rfl ?_
  refine jy_iadd (pc' := 21) (v := 1) F dX12_mark_20 (by decide) rfl ?_
  refine jy_put (pc' := 24) (C := RX12) (T := TX12) (N := 51) (ci := 11) (ws' := [(m0, .inr (11, [.ref b1, .ref b2, .int 0, .long 0, .long 1, .ref b3, .ref b4, .ref b5, .ref b6, .ref b7, .int 0, .int 0, .int 0, .int 0, .int 0, .int 0, .int (-1), .int (-1), .int 0, .int 0, .ref w0, .ref w1, .ref w2, .ref w3, .ref w4, .ref w5, .ref w6, .ref w7, .ref w8, .ref w9, .int 0, .int 0, .int 0, .ref w10, .ref w11, .int 0, .ref w12, .ref w13, .ref w14, .ref w15, .ref w16, .ref w17, .ref w18, .ref w19, .ref w20, .int 0, .ref w21, .ref w22, .int 0, .int 0, .int 1])), (b1, .inl (k.2.1, 1360, .inl fa)), (b2, .inl (k.2.2.1, 36, .inr (.inl fn)))]) F hiX12 tyX12 tyX12_ok nmX12 0 rfl rfl 50 (by decide) dX12_mark_21 (List.mem_of_getElem? (i := 1) rfl) rfl rfl rfl rfl (Nat.le_of_ble_eq_true rfl) rfl rfl ?_
  refine jy_aload_n (pc' := 25) F 0 dX12_mark_24 rfl rfl rfl ?_
  refine jy_iconst (pc' := 26) (v := 0) F dX12_mark_25 (by decide) rfl ?_
  refine jy_aload_n (pc' := 27) F 0 dX12_mark_26 rfl rfl rfl ?_
  refine jy_get (pc' := 30) (C := RX12) (T := TX12) (N := 51) (ci := 11) (v := .int 1) F hiX12 0 rfl rfl 50 (by decide) dX12_mark_27 (List.mem_of_getElem? (i := 1) rfl) rfl rfl ?_
  refine jy_callv (pc' := 33) (cells' := 0) (slots' := 0) (wr := []) hA [0, 1, 2] [] rfl rfl (by decide) (by decide) (jy_runV (As := [.int 0, .int 1]) (b := m0) (q0 := 0) (ci := 11) (C := RX12) (T := TX12) (N := 51) (st := []) F hN (fun sz => c_X12_copies l D k m0 b1 b2 b3 b4 b5 b6 b7 w0 w1 w2 w3 w4 w5 w6 w7 w8 w9 w10 w11 w12 w13 w14 w15 w16 w17 w18 w19 w20 w21 w22 fa fn sz ) (jy_cV F g_c_X12_mark_c_X12_copies rfl hdX12_copies (List.mem_of_getElem? (i := 5) rfl) (List.mem_of_getElem? (i := 8) rfl) (List.mem_of_getElem? (i := 6) rfl) (List.mem_of_getElem? (i := 7) rfl) rfl rfl ⟨by decide, by decide⟩) rfl rfl [0, 1, 2] rfl (by decide) rfl rfl (Nat.le_of_ble_eq_true rfl) dX12_mark_30 ⟨by decide, by decide⟩) rfl rfl rfl (fun u_2 e_3 => ?_)
  refine jy_aload_n (pc' := 34) F 0 dX12_mark_33 rfl rfl rfl ?_
  refine jy_aload_n (pc' := 35) F 0 dX12_mark_34 rfl rfl rfl ?_
  refine jy_get (pc' := 38) (C := RX12) (T := TX12) (N := 51) (ci := 11) (v := .int 1) F hiX12 0 rfl rfl 50 (by decide) dX12_mark_35 (List.mem_of_getElem? (i := 1) rfl) rfl rfl ?_
  refine jy_calli (pc' := 41) (cells' := 0) (slots' := 0) (wr := []) hA [0] [] rfl rfl (by decide) (by decide) (jy_runV (As := [.int 1]) (b := m0) (q0 := 0) (ci := 11) (C := RX12) (T := TX12) (N := 51) (st := []) F hN (fun sz => c_X12_gives l D k m0 0 (.ref b1) (.ref b2) (.long 0) (.long 1) (.ref b3) (.ref b4) (.ref b5) (.ref b6) (.ref b7) (.int 0) (.int 0) (.int 0) (.int 0) (.int 0) (.int 0) (.int (-1)) (.int (-1)) (.int 0) (.int 0) (.ref w0) (.ref w1) (.ref w2) (.ref w3) (.ref w4) (.ref w5) (.ref w6) (.ref w7) (.ref w8) (.ref w9) (.int 0) (.int 0) (.int 0) (.ref w10) (.ref w11) (.int 0) (.ref w12) (.ref w13) (.ref w14) (.ref w15) (.ref w16) (.ref w17) (.ref w18) (.ref w19) (.ref w20) (.int 0) (.ref w21) (.ref w22) (.int 0) (.int 0) (.int 1) 1 sz ) (jy_cV F g_c_X12_mark_c_X12_gives rfl hdX12_gives (List.mem_of_getElem? (i := 5) rfl) (List.mem_of_getElem? (i := 13) rfl) (List.mem_of_getElem? (i := 11) rfl) (List.mem_of_getElem? (i := 12) rfl) rfl rfl ⟨by decide, by decide⟩) rfl rfl [0] rfl (by decide) rfl rfl (Nat.le_of_ble_eq_true rfl) dX12_mark_38 ⟨by decide, by decide⟩) rfl rfl rfl (fun r_6 u_4 e_5 => ?_)
  subst e_5
  refine jy_widen (cells' := 0) (slots' := 0) (by decide) (by decide) ?_
  exact jy_iret (v := 1) F hr hlk () (rfl) [] rfl (by decide) dX12_mark_41
def ws_c_X12_plain_1088 : List Cond := .code yX12_plain cX12_plain 3 none :: ([.fieldLink "NestedCheckerModel" 7 "NestedCheckerModel" "at" "[I"] ++ wsX120)
set_option maxHeartbeats 4000000 in
set_option maxRecDepth 100000 in
theorem c_X12_plain_1088 (l : Launch) (D : va_G) (k : jK) (h0 : Nat) (b1 : Nat) (v0 : Value) (v1 : Value) (v2 : Value) (v3 : Value) (v4 : Value) (v5 : Value) (v6 : Value) (v7 : Value) (v8 : Value) (v9 : Value) (v10 : Value) (v11 : Value) (v12 : Value) (v13 : Value) (v14 : Value) (v15 : Value) (v16 : Value) (v17 : Value) (v18 : Value) (v19 : Value) (v20 : Value) (v21 : Value) (v22 : Value) (v23 : Value) (v24 : Value) (v25 : Value) (v26 : Value) (v27 : Value) (v28 : Value) (v29 : Value) (v30 : Value) (v31 : Value) (v32 : Value) (v33 : Value) (v34 : Value) (v35 : Value) (v36 : Value) (v37 : Value) (v38 : Value) (v39 : Value) (v40 : Value) (v41 : Value) (v42 : Value) (v43 : Value) (v44 : Value) (v45 : Value) (v46 : Value) (v47 : Value) (v48 : Value) (v49 : Value) (f : Nat → Int32) (sz : Nat) (hf : ∀ j, j ≠ 4 → f j = 0) : Met l yX12_plain ws_c_X12_plain_1088 ({ frames := 0, cells := 0, slots := 0, locals := 0 }) (jy_P [.ref h0, .int 1088] D vwCl (jT k) jW [(h0, .inr (11, [.ref b1, v0, v1, v2, v3, v4, v5, v6, v7, v8, v9, v10, v11, v12, v13, v14, v15, v16, v17, v18, v19, v20, v21, v22, v23, v24, v25, v26, v27, v28, v29, v30, v31, v32, v33, v34, v35, v36, v37, v38, v39, v40, v41, v42, v43, v44, v45, v46, v47, v48, v49])), (b1, .inl (k.2.1, 1360, .inl f))] sz) (va_Qv (fun (u : (Nat → Int32)) => ∀ j, j ≠ 4 → j ≠ 1092 → u j = 0) (jy_B D vwCl (va_A [(h0, .inr (11, [.ref b1, v0, v1, v2, v3, v4, v5, v6, v7, v8, v9, v10, v11, v12, v13, v14, v15, v16, v17, v18, v19, v20, v21, v22, v23, v24, v25, v26, v27, v28, v29, v30, v31, v32, v33, v34, v35, v36, v37, v38, v39, v40, v41, v42, v43, v44, v45, v46, v47, v48, v49])), (b1, .inl (k.2.1, 1360, .inl f))] sz) (fun (u : (Nat → Int32)) => [(h0, .inr (11, [.ref b1, v0, v1, v2, v3, v4, v5, v6, v7, v8, v9, v10, v11, v12, v13, v14, v15, v16, v17, v18, v19, v20, v21, v22, v23, v24, v25, v26, v27, v28, v29, v30, v31, v32, v33, v34, v35, v36, v37, v38, v39, v40, v41, v42, v43, v44, v45, v46, v47, v48, v49])), (b1, .inl (k.2.1, 1360, .inl u))])) (va_A [(h0, .inr (11, [.ref b1, v0, v1, v2, v3, v4, v5, v6, v7, v8, v9, v10, v11, v12, v13, v14, v15, v16, v17, v18, v19, v20, v21, v22, v23, v24, v25, v26, v27, v28, v29, v30, v31, v32, v33, v34, v35, v36, v37, v38, v39, v40, v41, v42, v43, v44, v45, v46, v47, v48, v49])), (b1, .inl (k.2.1, 1360, .inl f))] sz)) 0 0 (va_A [(h0, .inr (11, [.ref b1, v0, v1, v2, v3, v4, v5, v6, v7, v8, v9, v10, v11, v12, v13, v14, v15, v16, v17, v18, v19, v20, v21, v22, v23, v24, v25, v26, v27, v28, v29, v30, v31, v32, v33, v34, v35, v36, v37, v38, v39, v40, v41, v42, v43, v44, v45, v46, v47, v48, v49])), (b1, .inl (k.2.1, 1360, .inl f))] sz) := by
  refine jy_met (cc := cX12_plain) (maxL := 3) (ret := none) (lv := [(0, .ref h0), (1, .int 1088)]) (by decide) rfl (Nat.le_of_ble_eq_true rfl) rfl ?_
  intro p e s m below meth c F hr hlk hnm hN hA
  have hiX12 : ∀ w ∈ u_ws RX12 TX12 51, w ∈ ws_c_X12_plain_1088 := fun w hw => List.mem_cons_of_mem _ (List.mem_append_right _ hw)
  refine jy_iconst (pc' := 1) (v := 0) F dX12_plain_0 (by decide) rfl ?_
  refine jy_istore_n (pc' := 2) (lv' := [(2, .int 0), (0, .ref h0), (1, .int 1088)]) F dX12_plain_1 rfl (by decide) rfl rfl ?_
  refine jy_lpick (lv' := [(2, .int 0), (0, .ref h0), (1, .int 1088)]) [0, 1, 2] rfl ?_
  refine jy_loop (α := (Nat → Int32)) (ws := fun i_1 a_3 => [(h0, .inr (11, [.ref b1, v0, v1, v2, v3, v4, v5, v6, v7, v8, v9, v10, v11, v12, v13, v14, v15, v16, v17, v18, v19, v20, v21, v22, v23, v24, v25, v26, v27, v28, v29, v30, v31, v32, v33, v34, v35, v36, v37, v38, v39, v40, v41, v42, v43, v44, v45, v46, v47, v48, v49])), (b1, .inl (k.2.1, 1360, .inl a_3))]) (lv := fun i_1 a_3 => [(2, .int (nI i_1)), (0, .ref h0), (1, .int 1088)]) (I := fun i_1 a_3 => ∀ j, j ≠ 4 → a_3 j = 0) (hi := 272) (i0 := 0) (a0 := (f)) (by omega) (hf) ?_ ?_
  · rintro i_1 f_2 h_4 hv_6 ih_5
    refine jy_ws (ws' := [(h0, .inr (11, [.ref b1, v0, v1, v2, v3, v4, v5, v6, v7, v8, v9, v10, v11, v12, v13, v14, v15, v16, v17, v18, v19, v20, v21, v22, v23, v24, v25, v26, v27, v28, v29, v30, v31, v32, v33, v34, v35, v36, v37, v38, v39, v40, v41, v42, v43, v44, v45, v46, v47, v48, v49])), (b1, .inl (k.2.1, 1360, .inl f_2))]) rfl ?_
    refine jy_iload_n (pc' := 3) F 0 dX12_plain_2 rfl rfl rfl ?_
    refine jy_sipush (pc' := 6) (v := 272) F dX12_plain_3 (by decide) rfl ?_
    refine jy_icmp_ge (pc' := 9) (tgt := 24) F dX12_plain_6 (by decide) rfl (fun h => absurd h (nI_ge (a := i_1) (b := 272) (by omega) (by omega))) (fun _ => ?_)
    refine jy_aload_n (pc' := 10) F 1 dX12_plain_9 rfl rfl rfl ?_
    refine jy_get (pc' := 13) (C := RX12) (T := TX12) (N := 51) (ci := 11) (v := .ref b1) F hiX12 0 rfl rfl 0 (by decide) dX12_plain_10 (List.mem_of_getElem? (i := 1) rfl) rfl rfl ?_
    refine jy_iload_n (pc' := 14) F 2 dX12_plain_13 rfl rfl rfl ?_
    refine jy_iload_n (pc' := 15) F 0 dX12_plain_14 rfl rfl rfl ?_
    refine jy_iadd (pc' := 16) (v := (nI (1088 + i_1))) F dX12_plain_15 (nI_add 1088 i_1) rfl ?_
    refine jy_iconst (pc' := 17) (v := 0) F dX12_plain_16 (by decide) rfl ?_
    refine jy_iast (pc' := 18) (g := (upd f_2 (1088 + i_1) 0)) (ws' := [(h0, .inr (11, [.ref b1, v0, v1, v2, v3, v4, v5, v6, v7, v8, v9, v10, v11, v12, v13, v14, v15, v16, v17, v18, v19, v20, v21, v22, v23, v24, v25, v26, v27, v28, v29, v30, v31, v32, v33, v34, v35, v36, v37, v38, v39, v40, v41, v42, v43, v44, v45, v46, v47, v48, v49])), (b1, .inl (k.2.1, 1360, .inl (upd f_2 (1088 + i_1) 0)))]) F 1 1 rfl rfl dX12_plain_17 (vp_in_nI (n := 1088 + i_1) (by omega) (by omega)) (by rw [nI_clamp (by omega)]) rfl rfl ?_
    refine jy_iinc (pc' := 21) (v := (nI (i_1 + 1))) (lv' := [(2, .int (nI (i_1 + 1))), (0, .ref h0), (1, .int 1088)]) F 0 dX12_plain_18 rfl (nI_add i_1 1) (by decide) rfl rfl ?_
    refine jy_goto (tgt := 2) F dX12_plain_21 (by decide) ?_
    refine jy_lpick (lv' := [(2, .int (nI (i_1 + 1))), (0, .ref h0), (1, .int 1088)]) [0, 1, 2] rfl ?_
    exact ih_5 ((upd f_2 (1088 + i_1) 0)) (fun j hj => by unfold upd; split; rfl; exact hv_6 j hj)
  · rintro f_2 hv_6
    refine jy_ws (ws' := [(h0, .inr (11, [.ref b1, v0, v1, v2, v3, v4, v5, v6, v7, v8, v9, v10, v11, v12, v13, v14, v15, v16, v17, v18, v19, v20, v21, v22, v23, v24, v25, v26, v27, v28, v29, v30, v31, v32, v33, v34, v35, v36, v37, v38, v39, v40, v41, v42, v43, v44, v45, v46, v47, v48, v49])), (b1, .inl (k.2.1, 1360, .inl f_2))]) rfl ?_
    refine jy_iload_n (pc' := 3) F 0 dX12_plain_2 rfl rfl rfl ?_
    refine jy_sipush (pc' := 6) (v := 272) F dX12_plain_3 (by decide) rfl ?_
    refine jy_icmp_ge (pc' := 9) (tgt := 24) F dX12_plain_6 (by decide) rfl (fun _ => ?_) (fun h => absurd (nI_le (a := 272) (b := 272) (by omega) (by omega)) h)
    refine jy_aload_n (pc' := 25) F 1 dX12_plain_24 rfl rfl rfl ?_
    refine jy_get (pc' := 28) (C := RX12) (T := TX12) (N := 51) (ci := 11) (v := .ref b1) F hiX12 0 rfl rfl 0 (by decide) dX12_plain_25 (List.mem_of_getElem? (i := 1) rfl) rfl rfl ?_
    refine jy_iload_n (pc' := 29) F 2 dX12_plain_28 rfl rfl rfl ?_
    refine jy_iconst (pc' := 30) (v := 4) F dX12_plain_29 (by decide) rfl ?_
    refine jy_iadd (pc' := 31) (v := 1092) F dX12_plain_30 (by decide) rfl ?_
    refine jy_iconst (pc' := 32) (v := (-1)) F dX12_plain_31 (by decide) rfl ?_
    refine jy_iast (pc' := 33) (g := (upd f_2 1092 (-1))) (ws' := [(h0, .inr (11, [.ref b1, v0, v1, v2, v3, v4, v5, v6, v7, v8, v9, v10, v11, v12, v13, v14, v15, v16, v17, v18, v19, v20, v21, v22, v23, v24, v25, v26, v27, v28, v29, v30, v31, v32, v33, v34, v35, v36, v37, v38, v39, v40, v41, v42, v43, v44, v45, v46, v47, v48, v49])), (b1, .inl (k.2.1, 1360, .inl (upd f_2 1092 (-1))))]) F 1 1 rfl rfl dX12_plain_32 (vp_in_nI (n := 1092) (by omega) (by omega)) rfl rfl rfl ?_
    refine jy_widen (cells' := 0) (slots' := 0) (by decide) (by decide) ?_
    exact jy_vret F hr hlk ((upd f_2 1092 (-1))) (fun j hj hk => by unfold upd; rw [if_neg hk]; exact hv_6 j hj) [0, 1] rfl (by decide) dX12_plain_33
abbrev cX12_byteAt : ByteArray := prog_14_method_21_code
def yX12_byteAt : MethodName := ⟨RX12, "byteAt", "(I)I"⟩
theorem hdX12_byteAt : yX12_byteAt.cls ≠ "java/lang/invoke/MethodHandle" ∧ yX12_byteAt.cls ≠ "java/lang/invoke/VarHandle" ∧ (parseMethodDescriptor yX12_byteAt.desc).map (fun d => d.parameters.length) = some 1 := by decide +kernel
theorem dX12_byteAt_0 : decode cX12_byteAt 0 = .ok (.iload_n 1, 1) := by decide +kernel
theorem dX12_byteAt_1 : decode cX12_byteAt 1 = .ok (.aload_n 0, 1) := by decide +kernel
theorem dX12_byteAt_2 : decode cX12_byteAt 2 = .ok (.getfield 153, 3) := by decide +kernel
theorem dX12_byteAt_5 : decode cX12_byteAt 5 = .ok (.if_icmp .ge 16, 3) := by decide +kernel
theorem dX12_byteAt_21 : decode cX12_byteAt 21 = .ok (.iconst (-1), 1) := by decide +kernel
theorem dX12_byteAt_22 : decode cX12_byteAt 22 = .ok (.ireturn, 1) := by decide +kernel
def ws_c_X12_byteAt : List Cond := .code yX12_byteAt cX12_byteAt 2 (some .int) :: ([.fieldLink "NestedCheckerModel" 153 "NestedCheckerModel" "size" "I"] ++ wsX120)
set_option maxHeartbeats 4000000 in
set_option maxRecDepth 100000 in
theorem c_X12_byteAt (l : Launch) (D : va_G) (k : jK) (m0 : Nat) (b1 : Nat) (b2 : Nat) (b3 : Nat) (b4 : Nat) (b5 : Nat) (b6 : Nat) (b7 : Nat) (w0 : Nat) (w1 : Nat) (w2 : Nat) (w3 : Nat) (w4 : Nat) (w5 : Nat) (w6 : Nat) (w7 : Nat) (w8 : Nat) (w9 : Nat) (w10 : Nat) (w11 : Nat) (w12 : Nat) (w13 : Nat) (w14 : Nat) (w15 : Nat) (w16 : Nat) (w17 : Nat) (w18 : Nat) (w19 : Nat) (w20 : Nat) (w21 : Nat) (w22 : Nat) (sz : Nat)  : Met l yX12_byteAt ws_c_X12_byteAt ({ frames := 0, cells := 0, slots := 0, locals := 0 }) (jy_P [.ref m0, .int 0] D vwCl (jT k) jW [(m0, .inr (11, [.ref b1, .ref b2, .int 0, .long 0, .long 1, .ref b3, .ref b4, .ref b5, .ref b6, .ref b7, .int 0, .int 0, .int 0, .int 0, .int 0, .int 0, .int (-1), .int (-1), .int 0, .int 0, .ref w0, .ref w1, .ref w2, .ref w3, .ref w4, .ref w5, .ref w6, .ref w7, .ref w8, .ref w9, .int 0, .int 0, .int 0, .ref w10, .ref w11, .int 0, .ref w12, .ref w13, .ref w14, .ref w15, .ref w16, .ref w17, .ref w18, .ref w19, .ref w20, .int 0, .ref w21, .ref w22, .int 0, .int 0, .int 0]))] sz) (vp_Si (fun (r : Int32) => r = -1)) 0 0 (fun _ => False) := by
  refine jy_metS (cc := cX12_byteAt) (maxL := 2) (ret := (some .int)) (lv := [(0, .ref m0), (1, .int 0)]) (by decide) rfl (Nat.le_of_ble_eq_true rfl) rfl ?_
  intro p e s m below meth c F hr hlk hN
  have hiX12 : ∀ w ∈ u_ws RX12 TX12 51, w ∈ ws_c_X12_byteAt := fun w hw => List.mem_cons_of_mem _ (List.mem_append_right _ hw)
  refine jy_iload_n (pc' := 1) F 1 dX12_byteAt_0 rfl rfl rfl ?_
  refine jy_aload_n (pc' := 2) F 0 dX12_byteAt_1 rfl rfl rfl ?_
  refine jy_get (pc' := 5) (C := RX12) (T := TX12) (N := 51) (ci := 11) (v := .int 0) F hiX12 0 rfl rfl 11 (by decide) dX12_byteAt_2 (List.mem_of_getElem? (i := 1) rfl) rfl rfl ?_
  refine jy_icmp_ge (pc' := 8) (tgt := 21) F dX12_byteAt_5 (by decide) rfl (fun _ => ?_) (fun h => absurd h (by decide))
  refine jy_iconst (pc' := 22) (v := (-1)) F dX12_byteAt_21 (by decide) rfl ?_
  exact jy_iretS (v := (-1)) F hr hlk (rfl) dX12_byteAt_22
