set_option maxHeartbeats 4000000 in
set_option maxRecDepth 100000 in
theorem lc_status {p : Program} {e : Env} {s : State} {m : MethodId} {below : List Frame} {meth : Method} {c : Code} (l : Launch) {b : Nat} {sq : Nat → Int32} (C0 : lw_At p s m meth c b 6 sq) (D : va_G) (k : jK) (F : jy_F p m c code 4 s #[Value.ref b] lw_tbl R_law D vwCl (jT k)) (hN : jy_N jW s) (h0 : Nat) (a2 : Nat) (a4 : Nat) (a5 : Nat) (a6 : Nat) (a7 : Nat) (a8 : Nat) (a9 : Nat) (a10 : Nat) (t0 : Nat) (s0 : Nat) (m0 : Nat) (b1 : Nat) (b2 : Nat) (b3 : Nat) (b4 : Nat) (b5 : Nat) (b6 : Nat) (b7 : Nat) (w0 : Nat) (w1 : Nat) (w2 : Nat) (w3 : Nat) (w4 : Nat) (w5 : Nat) (w6 : Nat) (w7 : Nat) (w8 : Nat) (w9 : Nat) (w10 : Nat) (w11 : Nat) (w12 : Nat) (w13 : Nat) (w14 : Nat) (w15 : Nat) (w16 : Nat) (w17 : Nat) (w18 : Nat) (w19 : Nat) (w20 : Nat) (w21 : Nat) (w22 : Nat)  : JJ p l e room_1 s m #[Value.ref b] below meth c (lw_Z below #[Value.ref b] s) 4 D vwCl (fun q => s.heap.size ≤ q) (va_S (fun q => s.heap.size ≤ q) s.heap) 194 18023 [(h0, .inr (10, [.int 0, .long 0, .long 1, .ref t0, .ref a2, .ref s0, .ref a4, .int 0, .ref a5, .ref a6, .ref a7, .ref a8, .ref a9, .ref a10, .int 0])), (m0, .inr (11, [.ref b1, .ref b2, .int 0, .long 0, .long 1, .ref b3, .ref b4, .ref b5, .ref b6, .ref b7, .int 0, .int 0, .int 0, .int 0, .int 0, .int 0, .int (-1), .int (-1), .int 0, .int 0, .ref w0, .ref w1, .ref w2, .ref w3, .ref w4, .ref w5, .ref w6, .ref w7, .ref w8, .ref w9, .int 0, .int 0, .int 0, .ref w10, .ref w11, .int 0, .ref w12, .ref w13, .ref w14, .ref w15, .ref w16, .ref w17, .ref w18, .ref w19, .ref w20, .int 0, .ref w21, .ref w22, .int 0, .int 0, .int 0]))] 248 [(3, .int 0), (2, .ref m0), (1, .ref h0), (0, .ref b)] [] := by
  obtain ⟨hx, hb, hr, hml, hown, hts, hX, hbl, hlocks, hgv⟩ := id C0
  have hA : ∀ q : Nat, s.heap.size ≤ q → (fun q : Nat => s.heap.size ≤ q) q := fun _ h => h
  have hbA : ¬ (fun q : Nat => s.heap.size ≤ q) b := Nat.not_le.mpr hbl
  refine jy_aload_n (pc' := 249) F 2 dL_law_248 rfl rfl rfl ?_
  refine jy_calli (pc' := 252) (cells' := 194) (slots' := 18023) (wr := [(m0, .inr (11, [.ref b1, .ref b2, .int 0, .long 0, .long 1, .ref b3, .ref b4, .ref b5, .ref b6, .ref b7, .int 0, .int 0, .int 0, .int 0, .int 0, .int 0, .int (-1), .int (-1), .int 0, .int 0, .ref w0, .ref w1, .ref w2, .ref w3, .ref w4, .ref w5, .ref w6, .ref w7, .ref w8, .ref w9, .int 0, .int 0, .int 0, .ref w10, .ref w11, .int 0, .ref w12, .ref w13, .ref w14, .ref w15, .ref w16, .ref w17, .ref w18, .ref w19, .ref w20, .int 0, .ref w21, .ref w22, .int 0, .int 0, .int 0]))]) hA [0] [1] rfl rfl (by decide) (by decide) (jy_runV (As := []) (b := h0) (q0 := 0) (ci := 10) (C := RX11) (T := TX11) (N := 15) (st := []) F hN (fun sz => c_X11_status l D k h0 a2 a4 a5 a6 a7 a8 a9 a10 t0 s0 sz ) (jy_cV F gl_c_X11_status rfl hdX11_status (lm_171) (lm_700) (lm_701) (lm_702) rfl rfl ⟨by decide, by decide⟩) rfl rfl [0] rfl (by decide) rfl rfl (Nat.le_of_ble_eq_true rfl) dL_law_249 ⟨by decide, by decide⟩) rfl rfl rfl (fun r_3 u_1 e_2 => ?_)
  subst e_2
  refine jy_aload_n (pc' := 253) F 1 dL_law_252 rfl rfl rfl ?_
  refine jy_calli (pc' := 256) (cells' := 194) (slots' := 18023) (wr := []) hA [0] [] rfl rfl (by decide) (by decide) (jy_runV (As := []) (b := m0) (q0 := 0) (ci := 11) (C := RX12) (T := TX12) (N := 51) (st := [.int 0]) F hN (fun sz => c_X12_status l D k m0 b1 b2 b3 b4 b5 b6 b7 w0 w1 w2 w3 w4 w5 w6 w7 w8 w9 w10 w11 w12 w13 w14 w15 w16 w17 w18 w19 w20 w21 w22 sz ) (jy_cV F gl_c_X12_status rfl hdX12_status (lm_185) (lm_1755) (lm_1756) (lm_1757) rfl rfl ⟨by decide, by decide⟩) rfl rfl [0] rfl (by decide) rfl rfl (Nat.le_of_ble_eq_true rfl) dL_law_253 ⟨by decide, by decide⟩) rfl rfl rfl (fun r_6 u_4 e_5 => ?_)
  subst e_5
  refine jy_icmp_eq (pc' := 259) (tgt := 2053) F dL_law_256 (by decide) rfl (fun _ => ?_) (fun h => absurd h (by decide))
  refine jy_iinc (pc' := 2056) (v := 6) (lv' := [(3, .int 6), (2, .ref m0), (1, .ref h0), (0, .ref b)]) F 0 dL_law_2053 rfl (by decide) (by decide) rfl rfl ?_
  refine jy_goto (tgt := 18) F dL_law_2056 (by decide) ?_
  refine jy_iload_n (pc' := 19) F 0 dL_law_18 rfl rfl rfl ?_
  refine jy_aload_n (pc' := 20) F 3 dL_law_19 rfl rfl rfl ?_
  refine jy_slen (pc' := 21) (v := 6) F hX hbl hbA dL_law_20 rfl rfl ?_
  refine jy_bipush (pc' := 23) (v := 6) F dL_law_21 (by decide) rfl ?_
  refine jy_isub (pc' := 24) (v := 0) F dL_law_23 (by decide) rfl ?_
  refine jy_icmp_gt (pc' := 27) (tgt := 2059) F dL_law_24 (by decide) rfl (fun _ => ?_) (fun h => absurd h (by decide))
  refine jy_iconst (pc' := 2060) (v := 1) F dL_law_2059 (by decide) rfl ?_
  exact jy_lawret F hr hlocks (by decide) (by decide) dL_law_2060
set_option maxHeartbeats 4000000 in
set_option maxRecDepth 100000 in
theorem lc_top {p : Program} {e : Env} {s : State} {m : MethodId} {below : List Frame} {meth : Method} {c : Code} (l : Launch) {b : Nat} {sq : Nat → Int32} (C0 : lw_At p s m meth c b 6 sq) (D : va_G) (k : jK) (F : jy_F p m c code 4 s #[Value.ref b] lw_tbl R_law D vwCl (jT k)) (hN : jy_N jW s) (h0 : Nat) (a2 : Nat) (a4 : Nat) (a5 : Nat) (a6 : Nat) (a7 : Nat) (a8 : Nat) (a9 : Nat) (a10 : Nat) (t0 : Nat) (s0 : Nat) (m0 : Nat) (b1 : Nat) (b2 : Nat) (b3 : Nat) (b4 : Nat) (b5 : Nat) (b6 : Nat) (b7 : Nat) (w0 : Nat) (w1 : Nat) (w2 : Nat) (w3 : Nat) (w4 : Nat) (w5 : Nat) (w6 : Nat) (w7 : Nat) (w8 : Nat) (w9 : Nat) (w10 : Nat) (w11 : Nat) (w12 : Nat) (w13 : Nat) (w14 : Nat) (w15 : Nat) (w16 : Nat) (w17 : Nat) (w18 : Nat) (w19 : Nat) (w20 : Nat) (w21 : Nat) (w22 : Nat)  : JJ p l e room_1 s m #[Value.ref b] below meth c (lw_Z below #[Value.ref b] s) 4 D vwCl (fun q => s.heap.size ≤ q) (va_S (fun q => s.heap.size ≤ q) s.heap) 194 18023 [(h0, .inr (10, [.int 0, .long 0, .long 1, .ref t0, .ref a2, .ref s0, .ref a4, .int 0, .ref a5, .ref a6, .ref a7, .ref a8, .ref a9, .ref a10, .int 0])), (m0, .inr (11, [.ref b1, .ref b2, .int 0, .long 0, .long 1, .ref b3, .ref b4, .ref b5, .ref b6, .ref b7, .int 0, .int 0, .int 0, .int 0, .int 0, .int 0, .int (-1), .int (-1), .int 0, .int 0, .ref w0, .ref w1, .ref w2, .ref w3, .ref w4, .ref w5, .ref w6, .ref w7, .ref w8, .ref w9, .int 0, .int 0, .int 0, .ref w10, .ref w11, .int 0, .ref w12, .ref w13, .ref w14, .ref w15, .ref w16, .ref w17, .ref w18, .ref w19, .ref w20, .int 0, .ref w21, .ref w22, .int 0, .int 0, .int 0]))] 261 [(3, .int 0), (2, .ref m0), (1, .ref h0), (0, .ref b)] [] := by
  obtain ⟨hx, hb, hr, hml, hown, hts, hX, hbl, hlocks, hgv⟩ := id C0
  have hA : ∀ q : Nat, s.heap.size ≤ q → (fun q : Nat => s.heap.size ≤ q) q := fun _ h => h
  have hbA : ¬ (fun q : Nat => s.heap.size ≤ q) b := Nat.not_le.mpr hbl
  refine jy_aload_n (pc' := 262) F 2 dL_law_261 rfl rfl rfl ?_
  refine jy_calll (pc' := 265) (cells' := 194) (slots' := 18023) (wr := [(m0, .inr (11, [.ref b1, .ref b2, .int 0, .long 0, .long 1, .ref b3, .ref b4, .ref b5, .ref b6, .ref b7, .int 0, .int 0, .int 0, .int 0, .int 0, .int 0, .int (-1), .int (-1), .int 0, .int 0, .ref w0, .ref w1, .ref w2, .ref w3, .ref w4, .ref w5, .ref w6, .ref w7, .ref w8, .ref w9, .int 0, .int 0, .int 0, .ref w10, .ref w11, .int 0, .ref w12, .ref w13, .ref w14, .ref w15, .ref w16, .ref w17, .ref w18, .ref w19, .ref w20, .int 0, .ref w21, .ref w22, .int 0, .int 0, .int 0]))]) hA [0] [1] rfl rfl (by decide) (by decide) (jy_runV (As := []) (b := h0) (q0 := 0) (ci := 10) (C := RX11) (T := TX11) (N := 15) (st := []) F hN (fun sz => c_X11_top l D k h0 a2 a4 a5 a6 a7 a8 a9 a10 t0 s0 sz ) (jy_cV F gl_c_X11_top rfl hdX11_top (lm_171) (lm_704) (lm_705) (lm_706) rfl rfl ⟨by decide, by decide⟩) rfl rfl [0] rfl (by decide) rfl rfl (Nat.le_of_ble_eq_true rfl) dL_law_262 ⟨by decide, by decide⟩) rfl rfl rfl (fun r_3 u_1 e_2 => ?_)
  subst e_2
  refine jy_aload_n (pc' := 266) F 1 dL_law_265 rfl rfl rfl ?_
  refine jy_calll (pc' := 269) (cells' := 194) (slots' := 18023) (wr := []) hA [0] [] rfl rfl (by decide) (by decide) (jy_runV (As := []) (b := m0) (q0 := 0) (ci := 11) (C := RX12) (T := TX12) (N := 51) (st := [.long 0]) F hN (fun sz => c_X12_top l D k m0 b1 b2 b3 b4 b5 b6 b7 w0 w1 w2 w3 w4 w5 w6 w7 w8 w9 w10 w11 w12 w13 w14 w15 w16 w17 w18 w19 w20 w21 w22 sz ) (jy_cV F gl_c_X12_top rfl hdX12_top (lm_185) (lm_1759) (lm_1760) (lm_1761) rfl rfl ⟨by decide, by decide⟩) rfl rfl [0] rfl (by decide) rfl rfl (Nat.le_of_ble_eq_true rfl) dL_law_266 ⟨by decide, by decide⟩) rfl rfl rfl (fun r_6 u_4 e_5 => ?_)
  subst e_5
  refine jy_lcmp (pc' := 270) F dL_law_269 rfl ?_
  rw [show lg_cmp 0 0 = 0 by decide]
  refine jy_if_eq (pc' := 273) (tgt := 2053) F dL_law_270 (by decide) rfl (fun _ => ?_) (fun h => absurd h (by decide))
  refine jy_iinc (pc' := 2056) (v := 6) (lv' := [(3, .int 6), (2, .ref m0), (1, .ref h0), (0, .ref b)]) F 0 dL_law_2053 rfl (by decide) (by decide) rfl rfl ?_
  refine jy_goto (tgt := 18) F dL_law_2056 (by decide) ?_
  refine jy_iload_n (pc' := 19) F 0 dL_law_18 rfl rfl rfl ?_
  refine jy_aload_n (pc' := 20) F 3 dL_law_19 rfl rfl rfl ?_
  refine jy_slen (pc' := 21) (v := 6) F hX hbl hbA dL_law_20 rfl rfl ?_
  refine jy_bipush (pc' := 23) (v := 6) F dL_law_21 (by decide) rfl ?_
  refine jy_isub (pc' := 24) (v := 0) F dL_law_23 (by decide) rfl ?_
  refine jy_icmp_gt (pc' := 27) (tgt := 2059) F dL_law_24 (by decide) rfl (fun _ => ?_) (fun h => absurd h (by decide))
  refine jy_iconst (pc' := 2060) (v := 1) F dL_law_2059 (by decide) rfl ?_
  exact jy_lawret F hr hlocks (by decide) (by decide) dL_law_2060
set_option maxHeartbeats 4000000 in
set_option maxRecDepth 100000 in
theorem lc_bottom {p : Program} {e : Env} {s : State} {m : MethodId} {below : List Frame} {meth : Method} {c : Code} (l : Launch) {b : Nat} {sq : Nat → Int32} (C0 : lw_At p s m meth c b 6 sq) (D : va_G) (k : jK) (F : jy_F p m c code 4 s #[Value.ref b] lw_tbl R_law D vwCl (jT k)) (hN : jy_N jW s) (h0 : Nat) (a2 : Nat) (a4 : Nat) (a5 : Nat) (a6 : Nat) (a7 : Nat) (a8 : Nat) (a9 : Nat) (a10 : Nat) (t0 : Nat) (s0 : Nat) (m0 : Nat) (b1 : Nat) (b2 : Nat) (b3 : Nat) (b4 : Nat) (b5 : Nat) (b6 : Nat) (b7 : Nat) (w0 : Nat) (w1 : Nat) (w2 : Nat) (w3 : Nat) (w4 : Nat) (w5 : Nat) (w6 : Nat) (w7 : Nat) (w8 : Nat) (w9 : Nat) (w10 : Nat) (w11 : Nat) (w12 : Nat) (w13 : Nat) (w14 : Nat) (w15 : Nat) (w16 : Nat) (w17 : Nat) (w18 : Nat) (w19 : Nat) (w20 : Nat) (w21 : Nat) (w22 : Nat)  : JJ p l e room_1 s m #[Value.ref b] below meth c (lw_Z below #[Value.ref b] s) 4 D vwCl (fun q => s.heap.size ≤ q) (va_S (fun q => s.heap.size ≤ q) s.heap) 194 18023 [(h0, .inr (10, [.int 0, .long 0, .long 1, .ref t0, .ref a2, .ref s0, .ref a4, .int 0, .ref a5, .ref a6, .ref a7, .ref a8, .ref a9, .ref a10, .int 0])), (m0, .inr (11, [.ref b1, .ref b2, .int 0, .long 0, .long 1, .ref b3, .ref b4, .ref b5, .ref b6, .ref b7, .int 0, .int 0, .int 0, .int 0, .int 0, .int 0, .int (-1), .int (-1), .int 0, .int 0, .ref w0, .ref w1, .ref w2, .ref w3, .ref w4, .ref w5, .ref w6, .ref w7, .ref w8, .ref w9, .int 0, .int 0, .int 0, .ref w10, .ref w11, .int 0, .ref w12, .ref w13, .ref w14, .ref w15, .ref w16, .ref w17, .ref w18, .ref w19, .ref w20, .int 0, .ref w21, .ref w22, .int 0, .int 0, .int 0]))] 275 [(3, .int 0), (2, .ref m0), (1, .ref h0), (0, .ref b)] [] := by
  obtain ⟨hx, hb, hr, hml, hown, hts, hX, hbl, hlocks, hgv⟩ := id C0
  have hA : ∀ q : Nat, s.heap.size ≤ q → (fun q : Nat => s.heap.size ≤ q) q := fun _ h => h
  have hbA : ¬ (fun q : Nat => s.heap.size ≤ q) b := Nat.not_le.mpr hbl
  refine jy_aload_n (pc' := 276) F 2 dL_law_275 rfl rfl rfl ?_
  refine jy_calll (pc' := 279) (cells' := 194) (slots' := 18023) (wr := [(m0, .inr (11, [.ref b1, .ref b2, .int 0, .long 0, .long 1, .ref b3, .ref b4, .ref b5, .ref b6, .ref b7, .int 0, .int 0, .int 0, .int 0, .int 0, .int 0, .int (-1), .int (-1), .int 0, .int 0, .ref w0, .ref w1, .ref w2, .ref w3, .ref w4, .ref w5, .ref w6, .ref w7, .ref w8, .ref w9, .int 0, .int 0, .int 0, .ref w10, .ref w11, .int 0, .ref w12, .ref w13, .ref w14, .ref w15, .ref w16, .ref w17, .ref w18, .ref w19, .ref w20, .int 0, .ref w21, .ref w22, .int 0, .int 0, .int 0]))]) hA [0] [1] rfl rfl (by decide) (by decide) (jy_runV (As := []) (b := h0) (q0 := 0) (ci := 10) (C := RX11) (T := TX11) (N := 15) (st := []) F hN (fun sz => c_X11_bottom l D k h0 a2 a4 a5 a6 a7 a8 a9 a10 t0 s0 sz ) (jy_cV F gl_c_X11_bottom rfl hdX11_bottom (lm_171) (lm_708) (lm_709) (lm_710) rfl rfl ⟨by decide, by decide⟩) rfl rfl [0] rfl (by decide) rfl rfl (Nat.le_of_ble_eq_true rfl) dL_law_276 ⟨by decide, by decide⟩) rfl rfl rfl (fun r_3 u_1 e_2 => ?_)
  subst e_2
  refine jy_aload_n (pc' := 280) F 1 dL_law_279 rfl rfl rfl ?_
  refine jy_calll (pc' := 283) (cells' := 194) (slots' := 18023) (wr := []) hA [0] [] rfl rfl (by decide) (by decide) (jy_runV (As := []) (b := m0) (q0 := 0) (ci := 11) (C := RX12) (T := TX12) (N := 51) (st := [.long 1]) F hN (fun sz => c_X12_bottom l D k m0 b1 b2 b3 b4 b5 b6 b7 w0 w1 w2 w3 w4 w5 w6 w7 w8 w9 w10 w11 w12 w13 w14 w15 w16 w17 w18 w19 w20 w21 w22 sz ) (jy_cV F gl_c_X12_bottom rfl hdX12_bottom (lm_185) (lm_1763) (lm_1764) (lm_1765) rfl rfl ⟨by decide, by decide⟩) rfl rfl [0] rfl (by decide) rfl rfl (Nat.le_of_ble_eq_true rfl) dL_law_280 ⟨by decide, by decide⟩) rfl rfl rfl (fun r_6 u_4 e_5 => ?_)
  subst e_5
  refine jy_lcmp (pc' := 284) F dL_law_283 rfl ?_
  rw [show lg_cmp 1 1 = 0 by decide]
  refine jy_if_eq (pc' := 287) (tgt := 2053) F dL_law_284 (by decide) rfl (fun _ => ?_) (fun h => absurd h (by decide))
  refine jy_iinc (pc' := 2056) (v := 6) (lv' := [(3, .int 6), (2, .ref m0), (1, .ref h0), (0, .ref b)]) F 0 dL_law_2053 rfl (by decide) (by decide) rfl rfl ?_
  refine jy_goto (tgt := 18) F dL_law_2056 (by decide) ?_
  refine jy_iload_n (pc' := 19) F 0 dL_law_18 rfl rfl rfl ?_
  refine jy_aload_n (pc' := 20) F 3 dL_law_19 rfl rfl rfl ?_
  refine jy_slen (pc' := 21) (v := 6) F hX hbl hbA dL_law_20 rfl rfl ?_
  refine jy_bipush (pc' := 23) (v := 6) F dL_law_21 (by decide) rfl ?_
  refine jy_isub (pc' := 24) (v := 0) F dL_law_23 (by decide) rfl ?_
  refine jy_icmp_gt (pc' := 27) (tgt := 2059) F dL_law_24 (by decide) rfl (fun _ => ?_) (fun h => absurd h (by decide))
  refine jy_iconst (pc' := 2060) (v := 1) F dL_law_2059 (by decide) rfl ?_
  exact jy_lawret F hr hlocks (by decide) (by decide) dL_law_2060
set_option maxHeartbeats 4000000 in
set_option maxRecDepth 100000 in
theorem lc_tray {p : Program} {e : Env} {s : State} {m : MethodId} {below : List Frame} {meth : Method} {c : Code} (l : Launch) {b : Nat} {sq : Nat → Int32} (C0 : lw_At p s m meth c b 6 sq) (D : va_G) (k : jK) (F : jy_F p m c code 4 s #[Value.ref b] lw_tbl R_law D vwCl (jT k)) (hN : jy_N jW s) (h0 : Nat) (a2 : Nat) (a4 : Nat) (a5 : Nat) (a6 : Nat) (a7 : Nat) (a8 : Nat) (a9 : Nat) (a10 : Nat) (t0 : Nat) (s0 : Nat) (t1 : Nat) (t2 : Nat) (t3 : Nat) (fv : Nat → Int64) (fs : Nat → Int32) (fp : Nat → Int32) (m0 : Nat) (b1 : Nat) (b2 : Nat) (b3 : Nat) (b4 : Nat) (b5 : Nat) (b6 : Nat) (b7 : Nat) (w0 : Nat) (w1 : Nat) (w2 : Nat) (w3 : Nat) (w4 : Nat) (w5 : Nat) (w6 : Nat) (w7 : Nat) (w8 : Nat) (w9 : Nat) (w10 : Nat) (w11 : Nat) (w12 : Nat) (w13 : Nat) (w14 : Nat) (w15 : Nat) (w16 : Nat) (w17 : Nat) (w18 : Nat) (w19 : Nat) (w20 : Nat) (w21 : Nat) (w22 : Nat) (fq : Nat → Int32) (fm : Nat → Int32) (gv : Nat → Int64) (hp : ∀ j, j < 4 → fp j = -1) (hm : ∀ j, j < 4 → fm j = -1) : JJ p l e room_1 s m #[Value.ref b] below meth c (lw_Z below #[Value.ref b] s) 4 D vwCl (fun q => s.heap.size ≤ q) (va_S (fun q => s.heap.size ≤ q) s.heap) 194 18023 [(h0, .inr (10, [.int 0, .long 0, .long 1, .ref t0, .ref a2, .ref s0, .ref a4, .int 0, .ref a5, .ref a6, .ref a7, .ref a8, .ref a9, .ref a10, .int 0])), (t0, .inr (8, [.ref t1, .ref t2, .ref t3])), (t1, .inl (k.2.2.1, 240, .inr (.inl fv))), (t2, .inl (k.2.1, 4, .inl fs)), (t3, .inl (k.2.1, 4, .inl fp)), (m0, .inr (11, [.ref b1, .ref b2, .int 0, .long 0, .long 1, .ref b3, .ref b4, .ref b5, .ref b6, .ref b7, .int 0, .int 0, .int 0, .int 0, .int 0, .int 0, .int (-1), .int (-1), .int 0, .int 0, .ref w0, .ref w1, .ref w2, .ref w3, .ref w4, .ref w5, .ref w6, .ref w7, .ref w8, .ref w9, .int 0, .int 0, .int 0, .ref w10, .ref w11, .int 0, .ref w12, .ref w13, .ref w14, .ref w15, .ref w16, .ref w17, .ref w18, .ref w19, .ref w20, .int 0, .ref w21, .ref w22, .int 0, .int 0, .int 0])), (b3, .inl (k.2.1, 4, .inl fq)), (b4, .inl (k.2.1, 4, .inl fm)), (b5, .inl (k.2.2.1, 240, .inr (.inl gv)))] 289 [(3, .int 0), (2, .ref m0), (1, .ref h0), (0, .ref b)] [] := by
  obtain ⟨hx, hb, hr, hml, hown, hts, hX, hbl, hlocks, hgv⟩ := id C0
  have hA : ∀ q : Nat, s.heap.size ≤ q → (fun q : Nat => s.heap.size ≤ q) q := fun _ h => h
  have hbA : ¬ (fun q : Nat => s.heap.size ≤ q) b := Nat.not_le.mpr hbl
  refine jy_aload_n (pc' := 290) F 2 dL_law_289 rfl rfl rfl ?_
  refine jy_aload_n (pc' := 291) F 3 dL_law_290 rfl rfl rfl ?_
  refine jy_iload_n (pc' := 292) F 0 dL_law_291 rfl rfl rfl ?_
  refine jy_iconst (pc' := 293) (v := 1) F dL_law_292 (by decide) rfl ?_
  refine jy_iadd (pc' := 294) (v := 1) F dL_law_293 (by decide) rfl ?_
  refine jy_sld (pc' := 295) (v := (sq 1)) F hX hbl hbA dL_law_294 (vp_in_nI (n := 1) (by decide) (by decide)) rfl rfl ?_
  refine jy_aload_n (pc' := 296) F 3 dL_law_295 rfl rfl rfl ?_
  refine jy_iload_n (pc' := 297) F 0 dL_law_296 rfl rfl rfl ?_
  refine jy_iconst (pc' := 298) (v := 2) F dL_law_297 (by decide) rfl ?_
  refine jy_iadd (pc' := 299) (v := 2) F dL_law_298 (by decide) rfl ?_
  refine jy_sld (pc' := 300) (v := (sq 2)) F hX hbl hbA dL_law_299 (vp_in_nI (n := 2) (by decide) (by decide)) rfl rfl ?_
  refine jy_aload_n (pc' := 301) F 3 dL_law_300 rfl rfl rfl ?_
  refine jy_iload_n (pc' := 302) F 0 dL_law_301 rfl rfl rfl ?_
  refine jy_iconst (pc' := 303) (v := 3) F dL_law_302 (by decide) rfl ?_
  refine jy_iadd (pc' := 304) (v := 3) F dL_law_303 (by decide) rfl ?_
  refine jy_sld (pc' := 305) (v := (sq 3)) F hX hbl hbA dL_law_304 (vp_in_nI (n := 3) (by decide) (by decide)) rfl rfl ?_
  refine jy_calli (pc' := 308) (cells' := 194) (slots' := 18023) (wr := [(m0, .inr (11, [.ref b1, .ref b2, .int 0, .long 0, .long 1, .ref b3, .ref b4, .ref b5, .ref b6, .ref b7, .int 0, .int 0, .int 0, .int 0, .int 0, .int 0, .int (-1), .int (-1), .int 0, .int 0, .ref w0, .ref w1, .ref w2, .ref w3, .ref w4, .ref w5, .ref w6, .ref w7, .ref w8, .ref w9, .int 0, .int 0, .int 0, .ref w10, .ref w11, .int 0, .ref w12, .ref w13, .ref w14, .ref w15, .ref w16, .ref w17, .ref w18, .ref w19, .ref w20, .int 0, .ref w21, .ref w22, .int 0, .int 0, .int 0])), (b3, .inl (k.2.1, 4, .inl fq)), (b4, .inl (k.2.1, 4, .inl fm)), (b5, .inl (k.2.2.1, 240, .inr (.inl gv)))]) hA [0, 1, 2, 3, 4] [5, 6, 7, 8] rfl rfl (by decide) (by decide) (jy_runV (As := [.int (sq 1), .int (sq 2), .int (sq 3)]) (b := h0) (q0 := 0) (ci := 10) (C := RX11) (T := TX11) (N := 15) (st := []) F hN (fun sz => c_X11_tray l D k h0 a2 a4 a5 a6 a7 a8 a9 a10 t0 s0 t1 t2 t3 fv fs fp (sq 1) (sq 2) (sq 3) sz (hp)) (jy_cV F gl_c_X11_tray rfl hdX11_tray (lm_171) (lm_712) (lm_713) (lm_714) rfl rfl ⟨by decide, by decide⟩) rfl rfl [0, 1, 2, 3, 4] rfl (by decide) rfl rfl (Nat.le_of_ble_eq_true rfl) dL_law_305 ⟨by decide, by decide⟩) rfl rfl rfl (fun r_3 u_1 e_2 => ?_)
  rcases e_2 with ⟨z_5, h_4⟩ | ⟨z_6, h_4⟩
  · subst z_5
    refine jy_aload_n (pc' := 309) F 1 dL_law_308 rfl rfl rfl ?_
    refine jy_aload_n (pc' := 310) F 3 dL_law_309 rfl rfl rfl ?_
    refine jy_iload_n (pc' := 311) F 0 dL_law_310 rfl rfl rfl ?_
    refine jy_iconst (pc' := 312) (v := 1) F dL_law_311 (by decide) rfl ?_
    refine jy_iadd (pc' := 313) (v := 1) F dL_law_312 (by decide) rfl ?_
    refine jy_sld (pc' := 314) (v := (sq 1)) F hX hbl hbA dL_law_313 (vp_in_nI (n := 1) (by decide) (by decide)) rfl rfl ?_
    refine jy_aload_n (pc' := 315) F 3 dL_law_314 rfl rfl rfl ?_
    refine jy_iload_n (pc' := 316) F 0 dL_law_315 rfl rfl rfl ?_
    refine jy_iconst (pc' := 317) (v := 2) F dL_law_316 (by decide) rfl ?_
    refine jy_iadd (pc' := 318) (v := 2) F dL_law_317 (by decide) rfl ?_
    refine jy_sld (pc' := 319) (v := (sq 2)) F hX hbl hbA dL_law_318 (vp_in_nI (n := 2) (by decide) (by decide)) rfl rfl ?_
    refine jy_aload_n (pc' := 320) F 3 dL_law_319 rfl rfl rfl ?_
    refine jy_iload_n (pc' := 321) F 0 dL_law_320 rfl rfl rfl ?_
    refine jy_iconst (pc' := 322) (v := 3) F dL_law_321 (by decide) rfl ?_
    refine jy_iadd (pc' := 323) (v := 3) F dL_law_322 (by decide) rfl ?_
    refine jy_sld (pc' := 324) (v := (sq 3)) F hX hbl hbA dL_law_323 (vp_in_nI (n := 3) (by decide) (by decide)) rfl rfl ?_
    refine jy_calli (pc' := 327) (cells' := 194) (slots' := 18023) (wr := []) hA [0, 1, 2, 3] [] rfl rfl (by decide) (by decide) (jy_runV (As := [.int (sq 1), .int (sq 2), .int (sq 3)]) (b := m0) (q0 := 0) (ci := 11) (C := RX12) (T := TX12) (N := 51) (st := [.int 1]) F hN (fun sz => c_X12_tray l D k m0 b1 b2 b3 b4 b5 b6 b7 w0 w1 w2 w3 w4 w5 w6 w7 w8 w9 w10 w11 w12 w13 w14 w15 w16 w17 w18 w19 w20 w21 w22 fq fm gv (sq 1) (sq 2) (sq 3) sz (hm)) (jy_cV F gl_c_X12_tray rfl hdX12_tray (lm_185) (lm_1767) (lm_1768) (lm_1769) rfl rfl ⟨by decide, by decide⟩) rfl rfl [0, 1, 2, 3] rfl (by decide) rfl rfl (Nat.le_of_ble_eq_true rfl) dL_law_324 ⟨by decide, by decide⟩) rfl rfl rfl (fun r_9 u_7 e_8 => ?_)
    rcases e_8 with ⟨z_11, h_10⟩ | ⟨z_12, h_10⟩
    · subst z_11
      refine jy_icmp_eq (pc' := 330) (tgt := 2053) F dL_law_327 (by decide) rfl (fun _ => ?_) (fun h => absurd h (by decide))
      refine jy_iinc (pc' := 2056) (v := 6) (lv' := [(3, .int 6), (2, .ref m0), (1, .ref h0), (0, .ref b)]) F 0 dL_law_2053 rfl (by decide) (by decide) rfl rfl ?_
      refine jy_goto (tgt := 18) F dL_law_2056 (by decide) ?_
      refine jy_iload_n (pc' := 19) F 0 dL_law_18 rfl rfl rfl ?_
      refine jy_aload_n (pc' := 20) F 3 dL_law_19 rfl rfl rfl ?_
      refine jy_slen (pc' := 21) (v := 6) F hX hbl hbA dL_law_20 rfl rfl ?_
      refine jy_bipush (pc' := 23) (v := 6) F dL_law_21 (by decide) rfl ?_
      refine jy_isub (pc' := 24) (v := 0) F dL_law_23 (by decide) rfl ?_
      refine jy_icmp_gt (pc' := 27) (tgt := 2059) F dL_law_24 (by decide) rfl (fun _ => ?_) (fun h => absurd h (by decide))
      refine jy_iconst (pc' := 2060) (v := 1) F dL_law_2059 (by decide) rfl ?_
      exact jy_lawret F hr hlocks (by decide) (by decide) dL_law_2060
    · subst z_12
      exact absurd h_4 h_10
  · subst z_6
    refine jy_aload_n (pc' := 309) F 1 dL_law_308 rfl rfl rfl ?_
    refine jy_aload_n (pc' := 310) F 3 dL_law_309 rfl rfl rfl ?_
    refine jy_iload_n (pc' := 311) F 0 dL_law_310 rfl rfl rfl ?_
    refine jy_iconst (pc' := 312) (v := 1) F dL_law_311 (by decide) rfl ?_
    refine jy_iadd (pc' := 313) (v := 1) F dL_law_312 (by decide) rfl ?_
    refine jy_sld (pc' := 314) (v := (sq 1)) F hX hbl hbA dL_law_313 (vp_in_nI (n := 1) (by decide) (by decide)) rfl rfl ?_
    refine jy_aload_n (pc' := 315) F 3 dL_law_314 rfl rfl rfl ?_
    refine jy_iload_n (pc' := 316) F 0 dL_law_315 rfl rfl rfl ?_
    refine jy_iconst (pc' := 317) (v := 2) F dL_law_316 (by decide) rfl ?_
    refine jy_iadd (pc' := 318) (v := 2) F dL_law_317 (by decide) rfl ?_
    refine jy_sld (pc' := 319) (v := (sq 2)) F hX hbl hbA dL_law_318 (vp_in_nI (n := 2) (by decide) (by decide)) rfl rfl ?_
    refine jy_aload_n (pc' := 320) F 3 dL_law_319 rfl rfl rfl ?_
    refine jy_iload_n (pc' := 321) F 0 dL_law_320 rfl rfl rfl ?_
    refine jy_iconst (pc' := 322) (v := 3) F dL_law_321 (by decide) rfl ?_
    refine jy_iadd (pc' := 323) (v := 3) F dL_law_322 (by decide) rfl ?_
    refine jy_sld (pc' := 324) (v := (sq 3)) F hX hbl hbA dL_law_323 (vp_in_nI (n := 3) (by decide) (by decide)) rfl rfl ?_
    refine jy_calli (pc' := 327) (cells' := 194) (slots' := 18023) (wr := []) hA [0, 1, 2, 3] [] rfl rfl (by decide) (by decide) (jy_runV (As := [.int (sq 1), .int (sq 2), .int (sq 3)]) (b := m0) (q0 := 0) (ci := 11) (C := RX12) (T := TX12) (N := 51) (st := [.int 0]) F hN (fun sz => c_X12_tray l D k m0 b1 b2 b3 b4 b5 b6 b7 w0 w1 w2 w3 w4 w5 w6 w7 w8 w9 w10 w11 w12 w13 w14 w15 w16 w17 w18 w19 w20 w21 w22 fq fm gv (sq 1) (sq 2) (sq 3) sz (hm)) (jy_cV F gl_c_X12_tray rfl hdX12_tray (lm_185) (lm_1767) (lm_1768) (lm_1769) rfl rfl ⟨by decide, by decide⟩) rfl rfl [0, 1, 2, 3] rfl (by decide) rfl rfl (Nat.le_of_ble_eq_true rfl) dL_law_324 ⟨by decide, by decide⟩) rfl rfl rfl (fun r_17 u_15 e_16 => ?_)
    rcases e_16 with ⟨z_19, h_18⟩ | ⟨z_20, h_18⟩
    · subst z_19
      exact absurd h_18 h_4
    · subst z_20
      refine jy_icmp_eq (pc' := 330) (tgt := 2053) F dL_law_327 (by decide) rfl (fun _ => ?_) (fun h => absurd h (by decide))
      refine jy_iinc (pc' := 2056) (v := 6) (lv' := [(3, .int 6), (2, .ref m0), (1, .ref h0), (0, .ref b)]) F 0 dL_law_2053 rfl (by decide) (by decide) rfl rfl ?_
      refine jy_goto (tgt := 18) F dL_law_2056 (by decide) ?_
      refine jy_iload_n (pc' := 19) F 0 dL_law_18 rfl rfl rfl ?_
      refine jy_aload_n (pc' := 20) F 3 dL_law_19 rfl rfl rfl ?_
      refine jy_slen (pc' := 21) (v := 6) F hX hbl hbA dL_law_20 rfl rfl ?_
      refine jy_bipush (pc' := 23) (v := 6) F dL_law_21 (by decide) rfl ?_
      refine jy_isub (pc' := 24) (v := 0) F dL_law_23 (by decide) rfl ?_
      refine jy_icmp_gt (pc' := 27) (tgt := 2059) F dL_law_24 (by decide) rfl (fun _ => ?_) (fun h => absurd h (by decide))
      refine jy_iconst (pc' := 2060) (v := 1) F dL_law_2059 (by decide) rfl ?_
      exact jy_lawret F hr hlocks (by decide) (by decide) dL_law_2060
set_option maxHeartbeats 4000000 in
set_option maxRecDepth 100000 in
theorem lc_write {p : Program} {e : Env} {s : State} {m : MethodId} {below : List Frame} {meth : Method} {c : Code} (l : Launch) {b : Nat} {sq : Nat → Int32} (C0 : lw_At p s m meth c b 6 sq) (D : va_G) (k : jK) (F : jy_F p m c code 4 s #[Value.ref b] lw_tbl R_law D vwCl (jT k)) (hN : jy_N jW s) (h0 : Nat) (a2 : Nat) (a4 : Nat) (a5 : Nat) (a6 : Nat) (a7 : Nat) (a8 : Nat) (a9 : Nat) (a10 : Nat) (t0 : Nat) (s0 : Nat) (t1 : Nat) (t2 : Nat) (t3 : Nat) (fp : Nat → Int32) (m0 : Nat) (b1 : Nat) (b2 : Nat) (b3 : Nat) (b4 : Nat) (b5 : Nat) (b6 : Nat) (b7 : Nat) (w0 : Nat) (w1 : Nat) (w2 : Nat) (w3 : Nat) (w4 : Nat) (w5 : Nat) (w6 : Nat) (w7 : Nat) (w8 : Nat) (w9 : Nat) (w10 : Nat) (w11 : Nat) (w12 : Nat) (w13 : Nat) (w14 : Nat) (w15 : Nat) (w16 : Nat) (w17 : Nat) (w18 : Nat) (w19 : Nat) (w20 : Nat) (w21 : Nat) (w22 : Nat) (fm : Nat → Int32) (hp : ∀ j, j < 4 → fp j = -1) (hm : ∀ j, j < 4 → fm j = -1) : JJ p l e room_1 s m #[Value.ref b] below meth c (lw_Z below #[Value.ref b] s) 4 D vwCl (fun q => s.heap.size ≤ q) (va_S (fun q => s.heap.size ≤ q) s.heap) 194 18023 [(h0, .inr (10, [.int 0, .long 0, .long 1, .ref t0, .ref a2, .ref s0, .ref a4, .int 0, .ref a5, .ref a6, .ref a7, .ref a8, .ref a9, .ref a10, .int 0])), (t0, .inr (8, [.ref t1, .ref t2, .ref t3])), (t3, .inl (k.2.1, 4, .inl fp)), (m0, .inr (11, [.ref b1, .ref b2, .int 0, .long 0, .long 1, .ref b3, .ref b4, .ref b5, .ref b6, .ref b7, .int 0, .int 0, .int 0, .int 0, .int 0, .int 0, .int (-1), .int (-1), .int 0, .int 0, .ref w0, .ref w1, .ref w2, .ref w3, .ref w4, .ref w5, .ref w6, .ref w7, .ref w8, .ref w9, .int 0, .int 0, .int 0, .ref w10, .ref w11, .int 0, .ref w12, .ref w13, .ref w14, .ref w15, .ref w16, .ref w17, .ref w18, .ref w19, .ref w20, .int 0, .ref w21, .ref w22, .int 0, .int 0, .int 0])), (b4, .inl (k.2.1, 4, .inl fm))] 332 [(3, .int 0), (2, .ref m0), (1, .ref h0), (0, .ref b)] [] := by
  obtain ⟨hx, hb, hr, hml, hown, hts, hX, hbl, hlocks, hgv⟩ := id C0
  have hA : ∀ q : Nat, s.heap.size ≤ q → (fun q : Nat => s.heap.size ≤ q) q := fun _ h => h
  have hbA : ¬ (fun q : Nat => s.heap.size ≤ q) b := Nat.not_le.mpr hbl
  refine jy_aload_n (pc' := 333) F 2 dL_law_332 rfl rfl rfl ?_
  refine jy_aload_n (pc' := 334) F 3 dL_law_333 rfl rfl rfl ?_
  refine jy_iload_n (pc' := 335) F 0 dL_law_334 rfl rfl rfl ?_
  refine jy_iconst (pc' := 336) (v := 1) F dL_law_335 (by decide) rfl ?_
  refine jy_iadd (pc' := 337) (v := 1) F dL_law_336 (by decide) rfl ?_
  refine jy_sld (pc' := 338) (v := (sq 1)) F hX hbl hbA dL_law_337 (vp_in_nI (n := 1) (by decide) (by decide)) rfl rfl ?_
  refine jy_aload_n (pc' := 339) F 3 dL_law_338 rfl rfl rfl ?_
  refine jy_iload_n (pc' := 340) F 0 dL_law_339 rfl rfl rfl ?_
  refine jy_iconst (pc' := 341) (v := 2) F dL_law_340 (by decide) rfl ?_
  refine jy_iadd (pc' := 342) (v := 2) F dL_law_341 (by decide) rfl ?_
  refine jy_sld (pc' := 343) (v := (sq 2)) F hX hbl hbA dL_law_342 (vp_in_nI (n := 2) (by decide) (by decide)) rfl rfl ?_
  refine jy_aload_n (pc' := 344) F 3 dL_law_343 rfl rfl rfl ?_
  refine jy_iload_n (pc' := 345) F 0 dL_law_344 rfl rfl rfl ?_
  refine jy_iconst (pc' := 346) (v := 3) F dL_law_345 (by decide) rfl ?_
  refine jy_iadd (pc' := 347) (v := 3) F dL_law_346 (by decide) rfl ?_
  refine jy_sld (pc' := 348) (v := (sq 3)) F hX hbl hbA dL_law_347 (vp_in_nI (n := 3) (by decide) (by decide)) rfl rfl ?_
  refine jy_i2l (pc' := 349) (v := (((sq 3)).toInt64)) F dL_law_348 rfl rfl ?_
  refine jy_bipush (pc' := 351) (v := 32) F dL_law_349 (by decide) rfl ?_
  refine jy_lshl (pc' := 352) (v := ((((sq 3)).toInt64) <<< (Int32.toInt64 32 &&& 63))) F dL_law_351 rfl rfl ?_
  refine jy_aload_n (pc' := 353) F 3 dL_law_352 rfl rfl rfl ?_
  refine jy_iload_n (pc' := 354) F 0 dL_law_353 rfl rfl rfl ?_
  refine jy_iconst (pc' := 355) (v := 4) F dL_law_354 (by decide) rfl ?_
  refine jy_iadd (pc' := 356) (v := 4) F dL_law_355 (by decide) rfl ?_
  refine jy_sld (pc' := 357) (v := (sq 4)) F hX hbl hbA dL_law_356 (vp_in_nI (n := 4) (by decide) (by decide)) rfl rfl ?_
  refine jy_i2l (pc' := 358) (v := (((sq 4)).toInt64)) F dL_law_357 rfl rfl ?_
  refine jy_ldc2 (pc' := 361) (v := 4294967295) F dL_law_358 (lm_2364) rfl ?_
  refine jy_land (pc' := 362) (v := ((((sq 4)).toInt64) &&& 4294967295)) F dL_law_361 rfl rfl ?_
  refine jy_lor (pc' := 363) (v := (((((sq 3)).toInt64) <<< (Int32.toInt64 32 &&& 63)) ||| ((((sq 4)).toInt64) &&& 4294967295))) F dL_law_362 rfl rfl ?_
  refine jy_calli (pc' := 366) (cells' := 194) (slots' := 18023) (wr := [(m0, .inr (11, [.ref b1, .ref b2, .int 0, .long 0, .long 1, .ref b3, .ref b4, .ref b5, .ref b6, .ref b7, .int 0, .int 0, .int 0, .int 0, .int 0, .int 0, .int (-1), .int (-1), .int 0, .int 0, .ref w0, .ref w1, .ref w2, .ref w3, .ref w4, .ref w5, .ref w6, .ref w7, .ref w8, .ref w9, .int 0, .int 0, .int 0, .ref w10, .ref w11, .int 0, .ref w12, .ref w13, .ref w14, .ref w15, .ref w16, .ref w17, .ref w18, .ref w19, .ref w20, .int 0, .ref w21, .ref w22, .int 0, .int 0, .int 0])), (b4, .inl (k.2.1, 4, .inl fm))]) hA [0, 1, 2] [3, 4] rfl rfl (by decide) (by decide) (jy_runV (As := [.int (sq 1), .int (sq 2), .long (((((sq 3)).toInt64) <<< (Int32.toInt64 32 &&& 63)) ||| ((((sq 4)).toInt64) &&& 4294967295))]) (b := h0) (q0 := 0) (ci := 10) (C := RX11) (T := TX11) (N := 15) (st := []) F hN (fun sz => c_X11_write l D k h0 a2 a4 a5 a6 a7 a8 a9 a10 t0 s0 t1 t2 t3 fp (sq 1) (sq 2) (((((sq 3)).toInt64) <<< (Int32.toInt64 32 &&& 63)) ||| ((((sq 4)).toInt64) &&& 4294967295)) sz (hp)) (jy_cV F gl_c_X11_write rfl hdX11_write (lm_171) (lm_736) (lm_737) (lm_738) rfl rfl ⟨by decide, by decide⟩) rfl rfl [0, 1, 2] rfl (by decide) rfl rfl (Nat.le_of_ble_eq_true rfl) dL_law_363 ⟨by decide, by decide⟩) rfl rfl rfl (fun r_3 u_1 e_2 => ?_)
  subst e_2
  refine jy_aload_n (pc' := 367) F 1 dL_law_366 rfl rfl rfl ?_
  refine jy_aload_n (pc' := 368) F 3 dL_law_367 rfl rfl rfl ?_
  refine jy_iload_n (pc' := 369) F 0 dL_law_368 rfl rfl rfl ?_
  refine jy_iconst (pc' := 370) (v := 1) F dL_law_369 (by decide) rfl ?_
  refine jy_iadd (pc' := 371) (v := 1) F dL_law_370 (by decide) rfl ?_
  refine jy_sld (pc' := 372) (v := (sq 1)) F hX hbl hbA dL_law_371 (vp_in_nI (n := 1) (by decide) (by decide)) rfl rfl ?_
  refine jy_aload_n (pc' := 373) F 3 dL_law_372 rfl rfl rfl ?_
  refine jy_iload_n (pc' := 374) F 0 dL_law_373 rfl rfl rfl ?_
  refine jy_iconst (pc' := 375) (v := 2) F dL_law_374 (by decide) rfl ?_
  refine jy_iadd (pc' := 376) (v := 2) F dL_law_375 (by decide) rfl ?_
  refine jy_sld (pc' := 377) (v := (sq 2)) F hX hbl hbA dL_law_376 (vp_in_nI (n := 2) (by decide) (by decide)) rfl rfl ?_
  refine jy_aload_n (pc' := 378) F 3 dL_law_377 rfl rfl rfl ?_
  refine jy_iload_n (pc' := 379) F 0 dL_law_378 rfl rfl rfl ?_
  refine jy_iconst (pc' := 380) (v := 3) F dL_law_379 (by decide) rfl ?_
  refine jy_iadd (pc' := 381) (v := 3) F dL_law_380 (by decide) rfl ?_
  refine jy_sld (pc' := 382) (v := (sq 3)) F hX hbl hbA dL_law_381 (vp_in_nI (n := 3) (by decide) (by decide)) rfl rfl ?_
  refine jy_i2l (pc' := 383) (v := (((sq 3)).toInt64)) F dL_law_382 rfl rfl ?_
  refine jy_bipush (pc' := 385) (v := 32) F dL_law_383 (by decide) rfl ?_
  refine jy_lshl (pc' := 386) (v := ((((sq 3)).toInt64) <<< (Int32.toInt64 32 &&& 63))) F dL_law_385 rfl rfl ?_
  refine jy_aload_n (pc' := 387) F 3 dL_law_386 rfl rfl rfl ?_
  refine jy_iload_n (pc' := 388) F 0 dL_law_387 rfl rfl rfl ?_
  refine jy_iconst (pc' := 389) (v := 4) F dL_law_388 (by decide) rfl ?_
  refine jy_iadd (pc' := 390) (v := 4) F dL_law_389 (by decide) rfl ?_
  refine jy_sld (pc' := 391) (v := (sq 4)) F hX hbl hbA dL_law_390 (vp_in_nI (n := 4) (by decide) (by decide)) rfl rfl ?_
  refine jy_i2l (pc' := 392) (v := (((sq 4)).toInt64)) F dL_law_391 rfl rfl ?_
  refine jy_ldc2 (pc' := 395) (v := 4294967295) F dL_law_392 (lm_2364) rfl ?_
  refine jy_land (pc' := 396) (v := ((((sq 4)).toInt64) &&& 4294967295)) F dL_law_395 rfl rfl ?_
  refine jy_lor (pc' := 397) (v := (((((sq 3)).toInt64) <<< (Int32.toInt64 32 &&& 63)) ||| ((((sq 4)).toInt64) &&& 4294967295))) F dL_law_396 rfl rfl ?_
  refine jy_calli (pc' := 400) (cells' := 194) (slots' := 18023) (wr := []) hA [0, 1] [] rfl rfl (by decide) (by decide) (jy_runV (As := [.int (sq 1), .int (sq 2), .long (((((sq 3)).toInt64) <<< (Int32.toInt64 32 &&& 63)) ||| ((((sq 4)).toInt64) &&& 4294967295))]) (b := m0) (q0 := 0) (ci := 11) (C := RX12) (T := TX12) (N := 51) (st := [.int 0]) F hN (fun sz => c_X12_write l D k m0 b1 b2 b3 b4 b5 b6 b7 w0 w1 w2 w3 w4 w5 w6 w7 w8 w9 w10 w11 w12 w13 w14 w15 w16 w17 w18 w19 w20 w21 w22 fm (sq 1) (sq 2) (((((sq 3)).toInt64) <<< (Int32.toInt64 32 &&& 63)) ||| ((((sq 4)).toInt64) &&& 4294967295)) sz (hm)) (jy_cV F gl_c_X12_write rfl hdX12_write (lm_185) (lm_1778) (lm_1779) (lm_1780) rfl rfl ⟨by decide, by decide⟩) rfl rfl [0, 1] rfl (by decide) rfl rfl (Nat.le_of_ble_eq_true rfl) dL_law_397 ⟨by decide, by decide⟩) rfl rfl rfl (fun r_6 u_4 e_5 => ?_)
  subst e_5
  refine jy_icmp_eq (pc' := 403) (tgt := 2053) F dL_law_400 (by decide) rfl (fun _ => ?_) (fun h => absurd h (by decide))
  refine jy_iinc (pc' := 2056) (v := 6) (lv' := [(3, .int 6), (2, .ref m0), (1, .ref h0), (0, .ref b)]) F 0 dL_law_2053 rfl (by decide) (by decide) rfl rfl ?_
  refine jy_goto (tgt := 18) F dL_law_2056 (by decide) ?_
  refine jy_iload_n (pc' := 19) F 0 dL_law_18 rfl rfl rfl ?_
  refine jy_aload_n (pc' := 20) F 3 dL_law_19 rfl rfl rfl ?_
  refine jy_slen (pc' := 21) (v := 6) F hX hbl hbA dL_law_20 rfl rfl ?_
  refine jy_bipush (pc' := 23) (v := 6) F dL_law_21 (by decide) rfl ?_
  refine jy_isub (pc' := 24) (v := 0) F dL_law_23 (by decide) rfl ?_
  refine jy_icmp_gt (pc' := 27) (tgt := 2059) F dL_law_24 (by decide) rfl (fun _ => ?_) (fun h => absurd h (by decide))
  refine jy_iconst (pc' := 2060) (v := 1) F dL_law_2059 (by decide) rfl ?_
  exact jy_lawret F hr hlocks (by decide) (by decide) dL_law_2060
set_option maxHeartbeats 4000000 in
set_option maxRecDepth 100000 in
theorem lc_read {p : Program} {e : Env} {s : State} {m : MethodId} {below : List Frame} {meth : Method} {c : Code} (l : Launch) {b : Nat} {sq : Nat → Int32} (C0 : lw_At p s m meth c b 6 sq) (D : va_G) (k : jK) (F : jy_F p m c code 4 s #[Value.ref b] lw_tbl R_law D vwCl (jT k)) (hN : jy_N jW s) (h0 : Nat) (a2 : Nat) (a4 : Nat) (a5 : Nat) (a6 : Nat) (a7 : Nat) (a8 : Nat) (a9 : Nat) (a10 : Nat) (t0 : Nat) (s0 : Nat) (t1 : Nat) (t2 : Nat) (t3 : Nat) (fp : Nat → Int32) (m0 : Nat) (b1 : Nat) (b2 : Nat) (b3 : Nat) (b4 : Nat) (b5 : Nat) (b6 : Nat) (b7 : Nat) (w0 : Nat) (w1 : Nat) (w2 : Nat) (w3 : Nat) (w4 : Nat) (w5 : Nat) (w6 : Nat) (w7 : Nat) (w8 : Nat) (w9 : Nat) (w10 : Nat) (w11 : Nat) (w12 : Nat) (w13 : Nat) (w14 : Nat) (w15 : Nat) (w16 : Nat) (w17 : Nat) (w18 : Nat) (w19 : Nat) (w20 : Nat) (w21 : Nat) (w22 : Nat) (fm : Nat → Int32) (hp : ∀ j, j < 4 → fp j = -1) (hm : ∀ j, j < 4 → fm j = -1) : JJ p l e room_1 s m #[Value.ref b] below meth c (lw_Z below #[Value.ref b] s) 4 D vwCl (fun q => s.heap.size ≤ q) (va_S (fun q => s.heap.size ≤ q) s.heap) 194 18023 [(h0, .inr (10, [.int 0, .long 0, .long 1, .ref t0, .ref a2, .ref s0, .ref a4, .int 0, .ref a5, .ref a6, .ref a7, .ref a8, .ref a9, .ref a10, .int 0])), (t0, .inr (8, [.ref t1, .ref t2, .ref t3])), (t3, .inl (k.2.1, 4, .inl fp)), (m0, .inr (11, [.ref b1, .ref b2, .int 0, .long 0, .long 1, .ref b3, .ref b4, .ref b5, .ref b6, .ref b7, .int 0, .int 0, .int 0, .int 0, .int 0, .int 0, .int (-1), .int (-1), .int 0, .int 0, .ref w0, .ref w1, .ref w2, .ref w3, .ref w4, .ref w5, .ref w6, .ref w7, .ref w8, .ref w9, .int 0, .int 0, .int 0, .ref w10, .ref w11, .int 0, .ref w12, .ref w13, .ref w14, .ref w15, .ref w16, .ref w17, .ref w18, .ref w19, .ref w20, .int 0, .ref w21, .ref w22, .int 0, .int 0, .int 0])), (b4, .inl (k.2.1, 4, .inl fm))] 405 [(3, .int 0), (2, .ref m0), (1, .ref h0), (0, .ref b)] [] := by
  obtain ⟨hx, hb, hr, hml, hown, hts, hX, hbl, hlocks, hgv⟩ := id C0
  have hA : ∀ q : Nat, s.heap.size ≤ q → (fun q : Nat => s.heap.size ≤ q) q := fun _ h => h
  have hbA : ¬ (fun q : Nat => s.heap.size ≤ q) b := Nat.not_le.mpr hbl
  refine jy_aload_n (pc' := 406) F 2 dL_law_405 rfl rfl rfl ?_
  refine jy_aload_n (pc' := 407) F 3 dL_law_406 rfl rfl rfl ?_
  refine jy_iload_n (pc' := 408) F 0 dL_law_407 rfl rfl rfl ?_
  refine jy_iconst (pc' := 409) (v := 1) F dL_law_408 (by decide) rfl ?_
  refine jy_iadd (pc' := 410) (v := 1) F dL_law_409 (by decide) rfl ?_
  refine jy_sld (pc' := 411) (v := (sq 1)) F hX hbl hbA dL_law_410 (vp_in_nI (n := 1) (by decide) (by decide)) rfl rfl ?_
  refine jy_aload_n (pc' := 412) F 3 dL_law_411 rfl rfl rfl ?_
  refine jy_iload_n (pc' := 413) F 0 dL_law_412 rfl rfl rfl ?_
  refine jy_iconst (pc' := 414) (v := 2) F dL_law_413 (by decide) rfl ?_
  refine jy_iadd (pc' := 415) (v := 2) F dL_law_414 (by decide) rfl ?_
  refine jy_sld (pc' := 416) (v := (sq 2)) F hX hbl hbA dL_law_415 (vp_in_nI (n := 2) (by decide) (by decide)) rfl rfl ?_
  refine jy_calll (pc' := 419) (cells' := 194) (slots' := 18023) (wr := [(m0, .inr (11, [.ref b1, .ref b2, .int 0, .long 0, .long 1, .ref b3, .ref b4, .ref b5, .ref b6, .ref b7, .int 0, .int 0, .int 0, .int 0, .int 0, .int 0, .int (-1), .int (-1), .int 0, .int 0, .ref w0, .ref w1, .ref w2, .ref w3, .ref w4, .ref w5, .ref w6, .ref w7, .ref w8, .ref w9, .int 0, .int 0, .int 0, .ref w10, .ref w11, .int 0, .ref w12, .ref w13, .ref w14, .ref w15, .ref w16, .ref w17, .ref w18, .ref w19, .ref w20, .int 0, .ref w21, .ref w22, .int 0, .int 0, .int 0])), (b4, .inl (k.2.1, 4, .inl fm))]) hA [0, 1, 2] [3, 4] rfl rfl (by decide) (by decide) (jy_runV (As := [.int (sq 1), .int (sq 2)]) (b := h0) (q0 := 0) (ci := 10) (C := RX11) (T := TX11) (N := 15) (st := []) F hN (fun sz => c_X11_read l D k h0 a2 a4 a5 a6 a7 a8 a9 a10 t0 s0 t1 t2 t3 fp (sq 1) (sq 2) sz (hp)) (jy_cV F gl_c_X11_read rfl hdX11_read (lm_171) (lm_756) (lm_757) (lm_758) rfl rfl ⟨by decide, by decide⟩) rfl rfl [0, 1, 2] rfl (by decide) rfl rfl (Nat.le_of_ble_eq_true rfl) dL_law_416 ⟨by decide, by decide⟩) rfl rfl rfl (fun r_3 u_1 e_2 => ?_)
  subst e_2
  refine jy_aload_n (pc' := 420) F 1 dL_law_419 rfl rfl rfl ?_
  refine jy_aload_n (pc' := 421) F 3 dL_law_420 rfl rfl rfl ?_
  refine jy_iload_n (pc' := 422) F 0 dL_law_421 rfl rfl rfl ?_
  refine jy_iconst (pc' := 423) (v := 1) F dL_law_422 (by decide) rfl ?_
  refine jy_iadd (pc' := 424) (v := 1) F dL_law_423 (by decide) rfl ?_
  refine jy_sld (pc' := 425) (v := (sq 1)) F hX hbl hbA dL_law_424 (vp_in_nI (n := 1) (by decide) (by decide)) rfl rfl ?_
  refine jy_aload_n (pc' := 426) F 3 dL_law_425 rfl rfl rfl ?_
  refine jy_iload_n (pc' := 427) F 0 dL_law_426 rfl rfl rfl ?_
  refine jy_iconst (pc' := 428) (v := 2) F dL_law_427 (by decide) rfl ?_
  refine jy_iadd (pc' := 429) (v := 2) F dL_law_428 (by decide) rfl ?_
  refine jy_sld (pc' := 430) (v := (sq 2)) F hX hbl hbA dL_law_429 (vp_in_nI (n := 2) (by decide) (by decide)) rfl rfl ?_
  refine jy_calll (pc' := 433) (cells' := 194) (slots' := 18023) (wr := []) hA [0, 1] [] rfl rfl (by decide) (by decide) (jy_runV (As := [.int (sq 1), .int (sq 2)]) (b := m0) (q0 := 0) (ci := 11) (C := RX12) (T := TX12) (N := 51) (st := [.long (-1)]) F hN (fun sz => c_X12_read l D k m0 b1 b2 b3 b4 b5 b6 b7 w0 w1 w2 w3 w4 w5 w6 w7 w8 w9 w10 w11 w12 w13 w14 w15 w16 w17 w18 w19 w20 w21 w22 fm (sq 1) (sq 2) sz (hm)) (jy_cV F gl_c_X12_read rfl hdX12_read (lm_185) (lm_1789) (lm_1790) (lm_1791) rfl rfl ⟨by decide, by decide⟩) rfl rfl [0, 1] rfl (by decide) rfl rfl (Nat.le_of_ble_eq_true rfl) dL_law_430 ⟨by decide, by decide⟩) rfl rfl rfl (fun r_6 u_4 e_5 => ?_)
  subst e_5
  refine jy_lcmp (pc' := 434) F dL_law_433 rfl ?_
  rw [show lg_cmp (-1) (-1) = 0 by decide]
  refine jy_if_eq (pc' := 437) (tgt := 2053) F dL_law_434 (by decide) rfl (fun _ => ?_) (fun h => absurd h (by decide))
  refine jy_iinc (pc' := 2056) (v := 6) (lv' := [(3, .int 6), (2, .ref m0), (1, .ref h0), (0, .ref b)]) F 0 dL_law_2053 rfl (by decide) (by decide) rfl rfl ?_
  refine jy_goto (tgt := 18) F dL_law_2056 (by decide) ?_
  refine jy_iload_n (pc' := 19) F 0 dL_law_18 rfl rfl rfl ?_
  refine jy_aload_n (pc' := 20) F 3 dL_law_19 rfl rfl rfl ?_
  refine jy_slen (pc' := 21) (v := 6) F hX hbl hbA dL_law_20 rfl rfl ?_
  refine jy_bipush (pc' := 23) (v := 6) F dL_law_21 (by decide) rfl ?_
  refine jy_isub (pc' := 24) (v := 0) F dL_law_23 (by decide) rfl ?_
  refine jy_icmp_gt (pc' := 27) (tgt := 2059) F dL_law_24 (by decide) rfl (fun _ => ?_) (fun h => absurd h (by decide))
  refine jy_iconst (pc' := 2060) (v := 1) F dL_law_2059 (by decide) rfl ?_
  exact jy_lawret F hr hlocks (by decide) (by decide) dL_law_2060
set_option maxHeartbeats 4000000 in
set_option maxRecDepth 100000 in
theorem lc_pour {p : Program} {e : Env} {s : State} {m : MethodId} {below : List Frame} {meth : Method} {c : Code} (l : Launch) {b : Nat} {sq : Nat → Int32} (C0 : lw_At p s m meth c b 6 sq) (D : va_G) (k : jK) (F : jy_F p m c code 4 s #[Value.ref b] lw_tbl R_law D vwCl (jT k)) (hN : jy_N jW s) (h0 : Nat) (a2 : Nat) (a4 : Nat) (a5 : Nat) (a6 : Nat) (a7 : Nat) (a8 : Nat) (a9 : Nat) (a10 : Nat) (t0 : Nat) (s0 : Nat) (t1 : Nat) (t2 : Nat) (t3 : Nat) (fp : Nat → Int32) (m0 : Nat) (b1 : Nat) (b2 : Nat) (b3 : Nat) (b4 : Nat) (b5 : Nat) (b6 : Nat) (b7 : Nat) (w0 : Nat) (w1 : Nat) (w2 : Nat) (w3 : Nat) (w4 : Nat) (w5 : Nat) (w6 : Nat) (w7 : Nat) (w8 : Nat) (w9 : Nat) (w10 : Nat) (w11 : Nat) (w12 : Nat) (w13 : Nat) (w14 : Nat) (w15 : Nat) (w16 : Nat) (w17 : Nat) (w18 : Nat) (w19 : Nat) (w20 : Nat) (w21 : Nat) (w22 : Nat) (fm : Nat → Int32) (hp : ∀ j, j < 4 → fp j = -1) (hm : ∀ j, j < 4 → fm j = -1) : JJ p l e room_1 s m #[Value.ref b] below meth c (lw_Z below #[Value.ref b] s) 4 D vwCl (fun q => s.heap.size ≤ q) (va_S (fun q => s.heap.size ≤ q) s.heap) 194 18023 [(h0, .inr (10, [.int 0, .long 0, .long 1, .ref t0, .ref a2, .ref s0, .ref a4, .int 0, .ref a5, .ref a6, .ref a7, .ref a8, .ref a9, .ref a10, .int 0])), (t0, .inr (8, [.ref t1, .ref t2, .ref t3])), (t3, .inl (k.2.1, 4, .inl fp)), (m0, .inr (11, [.ref b1, .ref b2, .int 0, .long 0, .long 1, .ref b3, .ref b4, .ref b5, .ref b6, .ref b7, .int 0, .int 0, .int 0, .int 0, .int 0, .int 0, .int (-1), .int (-1), .int 0, .int 0, .ref w0, .ref w1, .ref w2, .ref w3, .ref w4, .ref w5, .ref w6, .ref w7, .ref w8, .ref w9, .int 0, .int 0, .int 0, .ref w10, .ref w11, .int 0, .ref w12, .ref w13, .ref w14, .ref w15, .ref w16, .ref w17, .ref w18, .ref w19, .ref w20, .int 0, .ref w21, .ref w22, .int 0, .int 0, .int 0])), (b4, .inl (k.2.1, 4, .inl fm))] 439 [(3, .int 0), (2, .ref m0), (1, .ref h0), (0, .ref b)] [] := by
  obtain ⟨hx, hb, hr, hml, hown, hts, hX, hbl, hlocks, hgv⟩ := id C0
  have hA : ∀ q : Nat, s.heap.size ≤ q → (fun q : Nat => s.heap.size ≤ q) q := fun _ h => h
  have hbA : ¬ (fun q : Nat => s.heap.size ≤ q) b := Nat.not_le.mpr hbl
  refine jy_aload_n (pc' := 440) F 2 dL_law_439 rfl rfl rfl ?_
  refine jy_aload_n (pc' := 441) F 3 dL_law_440 rfl rfl rfl ?_
  refine jy_iload_n (pc' := 442) F 0 dL_law_441 rfl rfl rfl ?_
  refine jy_iconst (pc' := 443) (v := 1) F dL_law_442 (by decide) rfl ?_
  refine jy_iadd (pc' := 444) (v := 1) F dL_law_443 (by decide) rfl ?_
  refine jy_sld (pc' := 445) (v := (sq 1)) F hX hbl hbA dL_law_444 (vp_in_nI (n := 1) (by decide) (by decide)) rfl rfl ?_
  refine jy_aload_n (pc' := 446) F 3 dL_law_445 rfl rfl rfl ?_
  refine jy_iload_n (pc' := 447) F 0 dL_law_446 rfl rfl rfl ?_
  refine jy_iconst (pc' := 448) (v := 2) F dL_law_447 (by decide) rfl ?_
  refine jy_iadd (pc' := 449) (v := 2) F dL_law_448 (by decide) rfl ?_
  refine jy_sld (pc' := 450) (v := (sq 2)) F hX hbl hbA dL_law_449 (vp_in_nI (n := 2) (by decide) (by decide)) rfl rfl ?_
  refine jy_aload_n (pc' := 451) F 3 dL_law_450 rfl rfl rfl ?_
  refine jy_iload_n (pc' := 452) F 0 dL_law_451 rfl rfl rfl ?_
  refine jy_iconst (pc' := 453) (v := 3) F dL_law_452 (by decide) rfl ?_
  refine jy_iadd (pc' := 454) (v := 3) F dL_law_453 (by decide) rfl ?_
  refine jy_sld (pc' := 455) (v := (sq 3)) F hX hbl hbA dL_law_454 (vp_in_nI (n := 3) (by decide) (by decide)) rfl rfl ?_
  refine jy_aload_n (pc' := 456) F 3 dL_law_455 rfl rfl rfl ?_
  refine jy_iload_n (pc' := 457) F 0 dL_law_456 rfl rfl rfl ?_
  refine jy_iconst (pc' := 458) (v := 4) F dL_law_457 (by decide) rfl ?_
  refine jy_iadd (pc' := 459) (v := 4) F dL_law_458 (by decide) rfl ?_
  refine jy_sld (pc' := 460) (v := (sq 4)) F hX hbl hbA dL_law_459 (vp_in_nI (n := 4) (by decide) (by decide)) rfl rfl ?_
  refine jy_aload_n (pc' := 461) F 3 dL_law_460 rfl rfl rfl ?_
  refine jy_iload_n (pc' := 462) F 0 dL_law_461 rfl rfl rfl ?_
  refine jy_iconst (pc' := 463) (v := 5) F dL_law_462 (by decide) rfl ?_
  refine jy_iadd (pc' := 464) (v := 5) F dL_law_463 (by decide) rfl ?_
  refine jy_sld (pc' := 465) (v := (sq 5)) F hX hbl hbA dL_law_464 (vp_in_nI (n := 5) (by decide) (by decide)) rfl rfl ?_
  refine jy_calli (pc' := 468) (cells' := 194) (slots' := 18023) (wr := [(m0, .inr (11, [.ref b1, .ref b2, .int 0, .long 0, .long 1, .ref b3, .ref b4, .ref b5, .ref b6, .ref b7, .int 0, .int 0, .int 0, .int 0, .int 0, .int 0, .int (-1), .int (-1), .int 0, .int 0, .ref w0, .ref w1, .ref w2, .ref w3, .ref w4, .ref w5, .ref w6, .ref w7, .ref w8, .ref w9, .int 0, .int 0, .int 0, .ref w10, .ref w11, .int 0, .ref w12, .ref w13, .ref w14, .ref w15, .ref w16, .ref w17, .ref w18, .ref w19, .ref w20, .int 0, .ref w21, .ref w22, .int 0, .int 0, .int 0])), (b4, .inl (k.2.1, 4, .inl fm))]) hA [0, 1, 2] [3, 4] rfl rfl (by decide) (by decide) (jy_runV (As := [.int (sq 1), .int (sq 2), .int (sq 3), .int (sq 4), .int (sq 5)]) (b := h0) (q0 := 0) (ci := 10) (C := RX11) (T := TX11) (N := 15) (st := []) F hN (fun sz => c_X11_pour l D k h0 a2 a4 a5 a6 a7 a8 a9 a10 t0 s0 t1 t2 t3 fp (sq 1) (sq 2) (sq 3) (sq 4) (sq 5) sz (hp)) (jy_cV F gl_c_X11_pour rfl hdX11_pour (lm_171) (lm_768) (lm_769) (lm_770) rfl rfl ⟨by decide, by decide⟩) rfl rfl [0, 1, 2] rfl (by decide) rfl rfl (Nat.le_of_ble_eq_true rfl) dL_law_465 ⟨by decide, by decide⟩) rfl rfl rfl (fun r_3 u_1 e_2 => ?_)
  subst e_2
  refine jy_aload_n (pc' := 469) F 1 dL_law_468 rfl rfl rfl ?_
  refine jy_aload_n (pc' := 470) F 3 dL_law_469 rfl rfl rfl ?_
  refine jy_iload_n (pc' := 471) F 0 dL_law_470 rfl rfl rfl ?_
  refine jy_iconst (pc' := 472) (v := 1) F dL_law_471 (by decide) rfl ?_
  refine jy_iadd (pc' := 473) (v := 1) F dL_law_472 (by decide) rfl ?_
  refine jy_sld (pc' := 474) (v := (sq 1)) F hX hbl hbA dL_law_473 (vp_in_nI (n := 1) (by decide) (by decide)) rfl rfl ?_
  refine jy_aload_n (pc' := 475) F 3 dL_law_474 rfl rfl rfl ?_
  refine jy_iload_n (pc' := 476) F 0 dL_law_475 rfl rfl rfl ?_
  refine jy_iconst (pc' := 477) (v := 2) F dL_law_476 (by decide) rfl ?_
  refine jy_iadd (pc' := 478) (v := 2) F dL_law_477 (by decide) rfl ?_
  refine jy_sld (pc' := 479) (v := (sq 2)) F hX hbl hbA dL_law_478 (vp_in_nI (n := 2) (by decide) (by decide)) rfl rfl ?_
  refine jy_aload_n (pc' := 480) F 3 dL_law_479 rfl rfl rfl ?_
  refine jy_iload_n (pc' := 481) F 0 dL_law_480 rfl rfl rfl ?_
  refine jy_iconst (pc' := 482) (v := 3) F dL_law_481 (by decide) rfl ?_
  refine jy_iadd (pc' := 483) (v := 3) F dL_law_482 (by decide) rfl ?_
  refine jy_sld (pc' := 484) (v := (sq 3)) F hX hbl hbA dL_law_483 (vp_in_nI (n := 3) (by decide) (by decide)) rfl rfl ?_
  refine jy_aload_n (pc' := 485) F 3 dL_law_484 rfl rfl rfl ?_
  refine jy_iload_n (pc' := 486) F 0 dL_law_485 rfl rfl rfl ?_
  refine jy_iconst (pc' := 487) (v := 4) F dL_law_486 (by decide) rfl ?_
  refine jy_iadd (pc' := 488) (v := 4) F dL_law_487 (by decide) rfl ?_
  refine jy_sld (pc' := 489) (v := (sq 4)) F hX hbl hbA dL_law_488 (vp_in_nI (n := 4) (by decide) (by decide)) rfl rfl ?_
  refine jy_aload_n (pc' := 490) F 3 dL_law_489 rfl rfl rfl ?_
  refine jy_iload_n (pc' := 491) F 0 dL_law_490 rfl rfl rfl ?_
  refine jy_iconst (pc' := 492) (v := 5) F dL_law_491 (by decide) rfl ?_
  refine jy_iadd (pc' := 493) (v := 5) F dL_law_492 (by decide) rfl ?_
  refine jy_sld (pc' := 494) (v := (sq 5)) F hX hbl hbA dL_law_493 (vp_in_nI (n := 5) (by decide) (by decide)) rfl rfl ?_
  refine jy_calli (pc' := 497) (cells' := 194) (slots' := 18023) (wr := []) hA [0, 1] [] rfl rfl (by decide) (by decide) (jy_runV (As := [.int (sq 1), .int (sq 2), .int (sq 3), .int (sq 4), .int (sq 5)]) (b := m0) (q0 := 0) (ci := 11) (C := RX12) (T := TX12) (N := 51) (st := [.int 0]) F hN (fun sz => c_X12_pour l D k m0 b1 b2 b3 b4 b5 b6 b7 w0 w1 w2 w3 w4 w5 w6 w7 w8 w9 w10 w11 w12 w13 w14 w15 w16 w17 w18 w19 w20 w21 w22 fm (sq 1) (sq 2) (sq 3) (sq 4) (sq 5) sz (hm)) (jy_cV F gl_c_X12_pour rfl hdX12_pour (lm_185) (lm_1794) (lm_1795) (lm_1796) rfl rfl ⟨by decide, by decide⟩) rfl rfl [0, 1] rfl (by decide) rfl rfl (Nat.le_of_ble_eq_true rfl) dL_law_494 ⟨by decide, by decide⟩) rfl rfl rfl (fun r_6 u_4 e_5 => ?_)
  subst e_5
  refine jy_icmp_eq (pc' := 500) (tgt := 2053) F dL_law_497 (by decide) rfl (fun _ => ?_) (fun h => absurd h (by decide))
  refine jy_iinc (pc' := 2056) (v := 6) (lv' := [(3, .int 6), (2, .ref m0), (1, .ref h0), (0, .ref b)]) F 0 dL_law_2053 rfl (by decide) (by decide) rfl rfl ?_
  refine jy_goto (tgt := 18) F dL_law_2056 (by decide) ?_
  refine jy_iload_n (pc' := 19) F 0 dL_law_18 rfl rfl rfl ?_
  refine jy_aload_n (pc' := 20) F 3 dL_law_19 rfl rfl rfl ?_
  refine jy_slen (pc' := 21) (v := 6) F hX hbl hbA dL_law_20 rfl rfl ?_
  refine jy_bipush (pc' := 23) (v := 6) F dL_law_21 (by decide) rfl ?_
  refine jy_isub (pc' := 24) (v := 0) F dL_law_23 (by decide) rfl ?_
  refine jy_icmp_gt (pc' := 27) (tgt := 2059) F dL_law_24 (by decide) rfl (fun _ => ?_) (fun h => absurd h (by decide))
  refine jy_iconst (pc' := 2060) (v := 1) F dL_law_2059 (by decide) rfl ?_
  exact jy_lawret F hr hlocks (by decide) (by decide) dL_law_2060
set_option maxHeartbeats 4000000 in
set_option maxRecDepth 100000 in
theorem lc_feed {p : Program} {e : Env} {s : State} {m : MethodId} {below : List Frame} {meth : Method} {c : Code} (l : Launch) {b : Nat} {sq : Nat → Int32} (C0 : lw_At p s m meth c b 6 sq) (D : va_G) (k : jK) (F : jy_F p m c code 4 s #[Value.ref b] lw_tbl R_law D vwCl (jT k)) (hN : jy_N jW s) (h0 : Nat) (a2 : Nat) (a4 : Nat) (a5 : Nat) (a6 : Nat) (a7 : Nat) (a8 : Nat) (a9 : Nat) (a10 : Nat) (t0 : Nat) (s0 : Nat) (c1 : Nat) (c2 : Nat) (c3 : Nat) (c4 : Nat) (fb : Nat → Int32) (m0 : Nat) (b1 : Nat) (b2 : Nat) (b3 : Nat) (b4 : Nat) (b5 : Nat) (b6 : Nat) (b7 : Nat) (w0 : Nat) (w1 : Nat) (w2 : Nat) (w3 : Nat) (w4 : Nat) (w5 : Nat) (w6 : Nat) (w7 : Nat) (w8 : Nat) (w9 : Nat) (w10 : Nat) (w11 : Nat) (w12 : Nat) (w13 : Nat) (w14 : Nat) (w15 : Nat) (w16 : Nat) (w17 : Nat) (w18 : Nat) (w19 : Nat) (w20 : Nat) (w21 : Nat) (w22 : Nat) (ft : Nat → Int32)  : JJ p l e room_1 s m #[Value.ref b] below meth c (lw_Z below #[Value.ref b] s) 4 D vwCl (fun q => s.heap.size ≤ q) (va_S (fun q => s.heap.size ≤ q) s.heap) 194 18023 [(h0, .inr (10, [.int 0, .long 0, .long 1, .ref t0, .ref a2, .ref s0, .ref a4, .int 0, .ref a5, .ref a6, .ref a7, .ref a8, .ref a9, .ref a10, .int 0])), (a2, .inr (1, [.ref c1, .int 0, .int (-1), .int (-1), .ref c2, .int 0, .int 0, .int 0, .int 0, .int 0, .ref c3, .ref c4])), (c2, .inl (k.1, 900, .inl fb)), (m0, .inr (11, [.ref b1, .ref b2, .int 0, .long 0, .long 1, .ref b3, .ref b4, .ref b5, .ref b6, .ref b7, .int 0, .int 0, .int 0, .int 0, .int 0, .int 0, .int (-1), .int (-1), .int 0, .int 0, .ref w0, .ref w1, .ref w2, .ref w3, .ref w4, .ref w5, .ref w6, .ref w7, .ref w8, .ref w9, .int 0, .int 0, .int 0, .ref w10, .ref w11, .int 0, .ref w12, .ref w13, .ref w14, .ref w15, .ref w16, .ref w17, .ref w18, .ref w19, .ref w20, .int 0, .ref w21, .ref w22, .int 0, .int 0, .int 0])), (b6, .inl (k.1, 900, .inl ft))] 502 [(3, .int 0), (2, .ref m0), (1, .ref h0), (0, .ref b)] [] := by
  obtain ⟨hx, hb, hr, hml, hown, hts, hX, hbl, hlocks, hgv⟩ := id C0
  have hA : ∀ q : Nat, s.heap.size ≤ q → (fun q : Nat => s.heap.size ≤ q) q := fun _ h => h
  have hbA : ¬ (fun q : Nat => s.heap.size ≤ q) b := Nat.not_le.mpr hbl
  refine jy_aload_n (pc' := 503) F 2 dL_law_502 rfl rfl rfl ?_
  refine jy_aload_n (pc' := 504) F 3 dL_law_503 rfl rfl rfl ?_
  refine jy_iload_n (pc' := 505) F 0 dL_law_504 rfl rfl rfl ?_
  refine jy_iconst (pc' := 506) (v := 1) F dL_law_505 (by decide) rfl ?_
  refine jy_iadd (pc' := 507) (v := 1) F dL_law_506 (by decide) rfl ?_
  refine jy_sld (pc' := 508) (v := (sq 1)) F hX hbl hbA dL_law_507 (vp_in_nI (n := 1) (by decide) (by decide)) rfl rfl ?_
  refine jy_aload_n (pc' := 509) F 3 dL_law_508 rfl rfl rfl ?_
  refine jy_iload_n (pc' := 510) F 0 dL_law_509 rfl rfl rfl ?_
  refine jy_iconst (pc' := 511) (v := 2) F dL_law_510 (by decide) rfl ?_
  refine jy_iadd (pc' := 512) (v := 2) F dL_law_511 (by decide) rfl ?_
  refine jy_sld (pc' := 513) (v := (sq 2)) F hX hbl hbA dL_law_512 (vp_in_nI (n := 2) (by decide) (by decide)) rfl rfl ?_
  refine jy_aload_n (pc' := 514) F 3 dL_law_513 rfl rfl rfl ?_
  refine jy_iload_n (pc' := 515) F 0 dL_law_514 rfl rfl rfl ?_
  refine jy_iconst (pc' := 516) (v := 3) F dL_law_515 (by decide) rfl ?_
  refine jy_iadd (pc' := 517) (v := 3) F dL_law_516 (by decide) rfl ?_
  refine jy_sld (pc' := 518) (v := (sq 3)) F hX hbl hbA dL_law_517 (vp_in_nI (n := 3) (by decide) (by decide)) rfl rfl ?_
  refine jy_aload_n (pc' := 519) F 3 dL_law_518 rfl rfl rfl ?_
  refine jy_iload_n (pc' := 520) F 0 dL_law_519 rfl rfl rfl ?_
  refine jy_iconst (pc' := 521) (v := 4) F dL_law_520 (by decide) rfl ?_
  refine jy_iadd (pc' := 522) (v := 4) F dL_law_521 (by decide) rfl ?_
  refine jy_sld (pc' := 523) (v := (sq 4)) F hX hbl hbA dL_law_522 (vp_in_nI (n := 4) (by decide) (by decide)) rfl rfl ?_
  refine jy_aload_n (pc' := 524) F 3 dL_law_523 rfl rfl rfl ?_
  refine jy_iload_n (pc' := 525) F 0 dL_law_524 rfl rfl rfl ?_
  refine jy_iconst (pc' := 526) (v := 5) F dL_law_525 (by decide) rfl ?_
  refine jy_iadd (pc' := 527) (v := 5) F dL_law_526 (by decide) rfl ?_
  refine jy_sld (pc' := 528) (v := (sq 5)) F hX hbl hbA dL_law_527 (vp_in_nI (n := 5) (by decide) (by decide)) rfl rfl ?_
  refine jy_calli (pc' := 531) (cells' := 194) (slots' := 18023) (wr := [(m0, .inr (11, [.ref b1, .ref b2, .int 0, .long 0, .long 1, .ref b3, .ref b4, .ref b5, .ref b6, .ref b7, .int 0, .int 0, .int 0, .int 0, .int 0, .int 0, .int (-1), .int (-1), .int 0, .int 0, .ref w0, .ref w1, .ref w2, .ref w3, .ref w4, .ref w5, .ref w6, .ref w7, .ref w8, .ref w9, .int 0, .int 0, .int 0, .ref w10, .ref w11, .int 0, .ref w12, .ref w13, .ref w14, .ref w15, .ref w16, .ref w17, .ref w18, .ref w19, .ref w20, .int 0, .ref w21, .ref w22, .int 0, .int 0, .int 0])), (b6, .inl (k.1, 900, .inl ft))]) hA [0, 1, 2] [3, 4] rfl rfl (by decide) (by decide) (jy_runV (As := [.int (sq 1), .int (sq 2), .int (sq 3), .int (sq 4), .int (sq 5)]) (b := h0) (q0 := 0) (ci := 10) (C := RX11) (T := TX11) (N := 15) (st := []) F hN (fun sz => c_X11_feed l D k h0 a2 a4 a5 a6 a7 a8 a9 a10 t0 s0 c1 c2 c3 c4 fb (sq 1) (sq 2) (sq 3) (sq 4) (sq 5) sz ) (jy_cV F gl_c_X11_feed rfl hdX11_feed (lm_171) (lm_783) (lm_784) (lm_785) rfl rfl ⟨by decide, by decide⟩) rfl rfl [0, 1, 2] rfl (by decide) rfl rfl (Nat.le_of_ble_eq_true rfl) dL_law_528 ⟨by decide, by decide⟩) rfl rfl rfl (fun r_3 u_1 e_2 => ?_)
  subst e_2
  refine jy_aload_n (pc' := 532) F 1 dL_law_531 rfl rfl rfl ?_
  refine jy_aload_n (pc' := 533) F 3 dL_law_532 rfl rfl rfl ?_
  refine jy_iload_n (pc' := 534) F 0 dL_law_533 rfl rfl rfl ?_
  refine jy_iconst (pc' := 535) (v := 1) F dL_law_534 (by decide) rfl ?_
  refine jy_iadd (pc' := 536) (v := 1) F dL_law_535 (by decide) rfl ?_
  refine jy_sld (pc' := 537) (v := (sq 1)) F hX hbl hbA dL_law_536 (vp_in_nI (n := 1) (by decide) (by decide)) rfl rfl ?_
  refine jy_aload_n (pc' := 538) F 3 dL_law_537 rfl rfl rfl ?_
  refine jy_iload_n (pc' := 539) F 0 dL_law_538 rfl rfl rfl ?_
  refine jy_iconst (pc' := 540) (v := 2) F dL_law_539 (by decide) rfl ?_
  refine jy_iadd (pc' := 541) (v := 2) F dL_law_540 (by decide) rfl ?_
  refine jy_sld (pc' := 542) (v := (sq 2)) F hX hbl hbA dL_law_541 (vp_in_nI (n := 2) (by decide) (by decide)) rfl rfl ?_
  refine jy_aload_n (pc' := 543) F 3 dL_law_542 rfl rfl rfl ?_
  refine jy_iload_n (pc' := 544) F 0 dL_law_543 rfl rfl rfl ?_
  refine jy_iconst (pc' := 545) (v := 3) F dL_law_544 (by decide) rfl ?_
  refine jy_iadd (pc' := 546) (v := 3) F dL_law_545 (by decide) rfl ?_
  refine jy_sld (pc' := 547) (v := (sq 3)) F hX hbl hbA dL_law_546 (vp_in_nI (n := 3) (by decide) (by decide)) rfl rfl ?_
  refine jy_aload_n (pc' := 548) F 3 dL_law_547 rfl rfl rfl ?_
  refine jy_iload_n (pc' := 549) F 0 dL_law_548 rfl rfl rfl ?_
  refine jy_iconst (pc' := 550) (v := 4) F dL_law_549 (by decide) rfl ?_
  refine jy_iadd (pc' := 551) (v := 4) F dL_law_550 (by decide) rfl ?_
  refine jy_sld (pc' := 552) (v := (sq 4)) F hX hbl hbA dL_law_551 (vp_in_nI (n := 4) (by decide) (by decide)) rfl rfl ?_
  refine jy_aload_n (pc' := 553) F 3 dL_law_552 rfl rfl rfl ?_
  refine jy_iload_n (pc' := 554) F 0 dL_law_553 rfl rfl rfl ?_
  refine jy_iconst (pc' := 555) (v := 5) F dL_law_554 (by decide) rfl ?_
  refine jy_iadd (pc' := 556) (v := 5) F dL_law_555 (by decide) rfl ?_
  refine jy_sld (pc' := 557) (v := (sq 5)) F hX hbl hbA dL_law_556 (vp_in_nI (n := 5) (by decide) (by decide)) rfl rfl ?_
  refine jy_calli (pc' := 560) (cells' := 194) (slots' := 18023) (wr := []) hA [0, 1] [] rfl rfl (by decide) (by decide) (jy_runV (As := [.int (sq 1), .int (sq 2), .int (sq 3), .int (sq 4), .int (sq 5)]) (b := m0) (q0 := 0) (ci := 11) (C := RX12) (T := TX12) (N := 51) (st := [.int 20]) F hN (fun sz => c_X12_feed l D k m0 b1 b2 b3 b4 b5 b6 b7 w0 w1 w2 w3 w4 w5 w6 w7 w8 w9 w10 w11 w12 w13 w14 w15 w16 w17 w18 w19 w20 w21 w22 ft (sq 1) (sq 2) (sq 3) (sq 4) (sq 5) sz ) (jy_cV F gl_c_X12_feed rfl hdX12_feed (lm_185) (lm_1798) (lm_1799) (lm_1800) rfl rfl ⟨by decide, by decide⟩) rfl rfl [0, 1] rfl (by decide) rfl rfl (Nat.le_of_ble_eq_true rfl) dL_law_557 ⟨by decide, by decide⟩) rfl rfl rfl (fun r_6 u_4 e_5 => ?_)
  subst e_5
  refine jy_icmp_eq (pc' := 563) (tgt := 2053) F dL_law_560 (by decide) rfl (fun _ => ?_) (fun h => absurd h (by decide))
  refine jy_iinc (pc' := 2056) (v := 6) (lv' := [(3, .int 6), (2, .ref m0), (1, .ref h0), (0, .ref b)]) F 0 dL_law_2053 rfl (by decide) (by decide) rfl rfl ?_
  refine jy_goto (tgt := 18) F dL_law_2056 (by decide) ?_
  refine jy_iload_n (pc' := 19) F 0 dL_law_18 rfl rfl rfl ?_
  refine jy_aload_n (pc' := 20) F 3 dL_law_19 rfl rfl rfl ?_
  refine jy_slen (pc' := 21) (v := 6) F hX hbl hbA dL_law_20 rfl rfl ?_
  refine jy_bipush (pc' := 23) (v := 6) F dL_law_21 (by decide) rfl ?_
  refine jy_isub (pc' := 24) (v := 0) F dL_law_23 (by decide) rfl ?_
  refine jy_icmp_gt (pc' := 27) (tgt := 2059) F dL_law_24 (by decide) rfl (fun _ => ?_) (fun h => absurd h (by decide))
  refine jy_iconst (pc' := 2060) (v := 1) F dL_law_2059 (by decide) rfl ?_
  exact jy_lawret F hr hlocks (by decide) (by decide) dL_law_2060
set_option maxHeartbeats 4000000 in
set_option maxRecDepth 100000 in
theorem lc_checker {p : Program} {e : Env} {s : State} {m : MethodId} {below : List Frame} {meth : Method} {c : Code} (l : Launch) {b : Nat} {sq : Nat → Int32} (C0 : lw_At p s m meth c b 6 sq) (D : va_G) (k : jK) (F : jy_F p m c code 4 s #[Value.ref b] lw_tbl R_law D vwCl (jT k)) (hN : jy_N jW s) (h0 : Nat) (a2 : Nat) (a4 : Nat) (a5 : Nat) (a6 : Nat) (a7 : Nat) (a8 : Nat) (a9 : Nat) (a10 : Nat) (t0 : Nat) (s0 : Nat) (c1 : Nat) (c2 : Nat) (c3 : Nat) (c4 : Nat) (d1 : Nat) (d2 : Nat) (d3 : Nat) (e1 : Nat) (e2 : Nat) (e3 : Nat) (p1 : Nat) (p2 : Nat) (p3 : Nat) (p4 : Nat) (q1_ : Nat) (q2_ : Nat) (q3_ : Nat) (q4_ : Nat) (n0 : Value) (n1 : Value) (n2 : Value) (n3 : Value) (n4 : Value) (n5 : Value) (n6 : Value) (n7 : Value) (n8 : Value) (n9 : Value) (n10 : Value) (n11 : Value) (n12 : Value) (n13 : Value) (n14 : Value) (n15 : Value) (m0 : Nat) (b1 : Nat) (b2 : Nat) (b3 : Nat) (b4 : Nat) (b5 : Nat) (b6 : Nat) (b7 : Nat) (w0 : Nat) (w1 : Nat) (w2 : Nat) (w3 : Nat) (w4 : Nat) (w5 : Nat) (w6 : Nat) (w7 : Nat) (w8 : Nat) (w9 : Nat) (w10 : Nat) (w11 : Nat) (w12 : Nat) (w13 : Nat) (w14 : Nat) (w15 : Nat) (w16 : Nat) (w17 : Nat) (w18 : Nat) (w19 : Nat) (w20 : Nat) (w21 : Nat) (w22 : Nat) (fa : Nat → Int32) (fn : Nat → Int64) (ha : fa 4 = -1 ∧ ∀ j, j ≠ 4 → fa j = 0) : JJ p l e room_1 s m #[Value.ref b] below meth c (lw_Z below #[Value.ref b] s) 4 D vwCl (fun q => s.heap.size ≤ q) (va_S (fun q => s.heap.size ≤ q) s.heap) 194 18023 [(h0, .inr (10, [.int 0, .long 0, .long 1, .ref t0, .ref a2, .ref s0, .ref a4, .int 0, .ref a5, .ref a6, .ref a7, .ref a8, .ref a9, .ref a10, .int 0])), (a2, .inr (1, [.ref c1, .int 0, .int (-1), .int (-1), .ref c2, .int 0, .int 0, .int 0, .int 0, .int 0, .ref c3, .ref c4])), (c1, .inr (4, [.int 0, .int 0, .int 0, .int 0, .ref d1, .ref d2, .ref d3])), (d3, .inr (9, [.int (-1), .int 0, .int 0, .int 0, .int 0, .ref e1, .ref e2, .ref e3])), (a5, .inr (6, [.int 0, .int 0, .ref p1, .ref p2, .ref p3, .ref p4])), (a6, .inr (6, [.int 0, .int 0, .ref q1_, .ref q2_, .ref q3_, .ref q4_])), (a7, .inr (3, [n0, n1, .int 0, n2, n3, n4, n5, n6, n7, n8, n9, n10, n11, n12, n13, n14, n15])), (m0, .inr (11, [.ref b1, .ref b2, .int 0, .long 0, .long 1, .ref b3, .ref b4, .ref b5, .ref b6, .ref b7, .int 0, .int 0, .int 0, .int 0, .int 0, .int 0, .int (-1), .int (-1), .int 0, .int 0, .ref w0, .ref w1, .ref w2, .ref w3, .ref w4, .ref w5, .ref w6, .ref w7, .ref w8, .ref w9, .int 0, .int 0, .int 0, .ref w10, .ref w11, .int 0, .ref w12, .ref w13, .ref w14, .ref w15, .ref w16, .ref w17, .ref w18, .ref w19, .ref w20, .int 0, .ref w21, .ref w22, .int 0, .int 0, .int 0])), (b1, .inl (k.2.1, 1360, .inl fa)), (b2, .inl (k.2.2.1, 36, .inr (.inl fn)))] 565 [(3, .int 0), (2, .ref m0), (1, .ref h0), (0, .ref b)] [] := by
  obtain ⟨hx, hb, hr, hml, hown, hts, hX, hbl, hlocks, hgv⟩ := id C0
  have hA : ∀ q : Nat, s.heap.size ≤ q → (fun q : Nat => s.heap.size ≤ q) q := fun _ h => h
  have hbA : ¬ (fun q : Nat => s.heap.size ≤ q) b := Nat.not_le.mpr hbl
  refine jy_aload_n (pc' := 566) F 2 dL_law_565 rfl rfl rfl ?_
  refine jy_aload_n (pc' := 567) F 3 dL_law_566 rfl rfl rfl ?_
  refine jy_iload_n (pc' := 568) F 0 dL_law_567 rfl rfl rfl ?_
  refine jy_iconst (pc' := 569) (v := 1) F dL_law_568 (by decide) rfl ?_
  refine jy_iadd (pc' := 570) (v := 1) F dL_law_569 (by decide) rfl ?_
  refine jy_sld (pc' := 571) (v := (sq 1)) F hX hbl hbA dL_law_570 (vp_in_nI (n := 1) (by decide) (by decide)) rfl rfl ?_
  refine jy_calli (pc' := 574) (cells' := 194) (slots' := 18023) (wr := [(m0, .inr (11, [.ref b1, .ref b2, .int 0, .long 0, .long 1, .ref b3, .ref b4, .ref b5, .ref b6, .ref b7, .int 0, .int 0, .int 0, .int 0, .int 0, .int 0, .int (-1), .int (-1), .int 0, .int 0, .ref w0, .ref w1, .ref w2, .ref w3, .ref w4, .ref w5, .ref w6, .ref w7, .ref w8, .ref w9, .int 0, .int 0, .int 0, .ref w10, .ref w11, .int 0, .ref w12, .ref w13, .ref w14, .ref w15, .ref w16, .ref w17, .ref w18, .ref w19, .ref w20, .int 0, .ref w21, .ref w22, .int 0, .int 0, .int 0])), (b1, .inl (k.2.1, 1360, .inl fa)), (b2, .inl (k.2.2.1, 36, .inr (.inl fn)))]) hA [0, 1, 2, 3, 4, 5, 6] [7, 8, 9] rfl rfl (by decide) (by decide) (jy_runV (As := [.int (sq 1)]) (b := h0) (q0 := 0) (ci := 10) (C := RX11) (T := TX11) (N := 15) (st := []) F hN (fun sz => c_X11_checker l D k h0 a2 a4 a5 a6 a7 a8 a9 a10 t0 s0 c1 c2 c3 c4 d1 d2 d3 e1 e2 e3 p1 p2 p3 p4 q1_ q2_ q3_ q4_ n0 n1 n2 n3 n4 n5 n6 n7 n8 n9 n10 n11 n12 n13 n14 n15 (sq 1) sz ) (jy_cV F gl_c_X11_checker rfl hdX11_checker (lm_171) (lm_791) (lm_792) (lm_793) rfl rfl ⟨by decide, by decide⟩) rfl rfl [0, 1, 2, 3, 4, 5, 6] rfl (by decide) rfl rfl (Nat.le_of_ble_eq_true rfl) dL_law_571 ⟨by decide, by decide⟩) rfl rfl rfl (fun r_3 u_1 e_2 => ?_)
  rcases e_2 with ⟨z_5, h_4⟩ | ⟨z_6, h_4⟩
  · subst z_5
    refine jy_aload_n (pc' := 575) F 1 dL_law_574 rfl rfl rfl ?_
    refine jy_aload_n (pc' := 576) F 3 dL_law_575 rfl rfl rfl ?_
    refine jy_iload_n (pc' := 577) F 0 dL_law_576 rfl rfl rfl ?_
    refine jy_iconst (pc' := 578) (v := 1) F dL_law_577 (by decide) rfl ?_
    refine jy_iadd (pc' := 579) (v := 1) F dL_law_578 (by decide) rfl ?_
    refine jy_sld (pc' := 580) (v := (sq 1)) F hX hbl hbA dL_law_579 (vp_in_nI (n := 1) (by decide) (by decide)) rfl rfl ?_
    refine jy_calli (pc' := 583) (cells' := 194) (slots' := 18023) (wr := []) hA [0, 1, 2] [] rfl rfl (by decide) (by decide) (jy_runV (As := [.int (sq 1)]) (b := m0) (q0 := 0) (ci := 11) (C := RX12) (T := TX12) (N := 51) (st := [.int 0]) F hN (fun sz => c_X12_checker l D k m0 b1 b2 b3 b4 b5 b6 b7 w0 w1 w2 w3 w4 w5 w6 w7 w8 w9 w10 w11 w12 w13 w14 w15 w16 w17 w18 w19 w20 w21 w22 fa fn (sq 1) sz (ha)) (jy_cV F gl_c_X12_checker rfl hdX12_checker (lm_185) (lm_1810) (lm_1811) (lm_1812) rfl rfl ⟨by decide, by decide⟩) rfl rfl [0, 1, 2] rfl (by decide) rfl rfl (Nat.le_of_ble_eq_true rfl) dL_law_580 ⟨by decide, by decide⟩) rfl rfl rfl (fun r_9 u_7 e_8 => ?_)
    rcases e_8 with ⟨z_11, h_10⟩ | ⟨z_12, h_10⟩
    · subst z_11
      refine jy_icmp_eq (pc' := 586) (tgt := 2053) F dL_law_583 (by decide) rfl (fun _ => ?_) (fun h => absurd h (by decide))
      refine jy_iinc (pc' := 2056) (v := 6) (lv' := [(3, .int 6), (2, .ref m0), (1, .ref h0), (0, .ref b)]) F 0 dL_law_2053 rfl (by decide) (by decide) rfl rfl ?_
      refine jy_goto (tgt := 18) F dL_law_2056 (by decide) ?_
      refine jy_iload_n (pc' := 19) F 0 dL_law_18 rfl rfl rfl ?_
      refine jy_aload_n (pc' := 20) F 3 dL_law_19 rfl rfl rfl ?_
      refine jy_slen (pc' := 21) (v := 6) F hX hbl hbA dL_law_20 rfl rfl ?_
      refine jy_bipush (pc' := 23) (v := 6) F dL_law_21 (by decide) rfl ?_
      refine jy_isub (pc' := 24) (v := 0) F dL_law_23 (by decide) rfl ?_
      refine jy_icmp_gt (pc' := 27) (tgt := 2059) F dL_law_24 (by decide) rfl (fun _ => ?_) (fun h => absurd h (by decide))
      refine jy_iconst (pc' := 2060) (v := 1) F dL_law_2059 (by decide) rfl ?_
      exact jy_lawret F hr hlocks (by decide) (by decide) dL_law_2060
    · subst z_12
      exact absurd h_4 h_10
  · subst z_6
    refine jy_aload_n (pc' := 575) F 1 dL_law_574 rfl rfl rfl ?_
    refine jy_aload_n (pc' := 576) F 3 dL_law_575 rfl rfl rfl ?_
    refine jy_iload_n (pc' := 577) F 0 dL_law_576 rfl rfl rfl ?_
    refine jy_iconst (pc' := 578) (v := 1) F dL_law_577 (by decide) rfl ?_
    refine jy_iadd (pc' := 579) (v := 1) F dL_law_578 (by decide) rfl ?_
    refine jy_sld (pc' := 580) (v := (sq 1)) F hX hbl hbA dL_law_579 (vp_in_nI (n := 1) (by decide) (by decide)) rfl rfl ?_
    refine jy_calli (pc' := 583) (cells' := 194) (slots' := 18023) (wr := []) hA [0, 1, 2] [] rfl rfl (by decide) (by decide) (jy_runV (As := [.int (sq 1)]) (b := m0) (q0 := 0) (ci := 11) (C := RX12) (T := TX12) (N := 51) (st := [.int (-1)]) F hN (fun sz => c_X12_checker l D k m0 b1 b2 b3 b4 b5 b6 b7 w0 w1 w2 w3 w4 w5 w6 w7 w8 w9 w10 w11 w12 w13 w14 w15 w16 w17 w18 w19 w20 w21 w22 fa fn (sq 1) sz (ha)) (jy_cV F gl_c_X12_checker rfl hdX12_checker (lm_185) (lm_1810) (lm_1811) (lm_1812) rfl rfl ⟨by decide, by decide⟩) rfl rfl [0, 1, 2] rfl (by decide) rfl rfl (Nat.le_of_ble_eq_true rfl) dL_law_580 ⟨by decide, by decide⟩) rfl rfl rfl (fun r_17 u_15 e_16 => ?_)
    rcases e_16 with ⟨z_19, h_18⟩ | ⟨z_20, h_18⟩
    · subst z_19
      exact absurd h_18 h_4
    · subst z_20
      refine jy_icmp_eq (pc' := 586) (tgt := 2053) F dL_law_583 (by decide) rfl (fun _ => ?_) (fun h => absurd h (by decide))
      refine jy_iinc (pc' := 2056) (v := 6) (lv' := [(3, .int 6), (2, .ref m0), (1, .ref h0), (0, .ref b)]) F 0 dL_law_2053 rfl (by decide) (by decide) rfl rfl ?_
      refine jy_goto (tgt := 18) F dL_law_2056 (by decide) ?_
      refine jy_iload_n (pc' := 19) F 0 dL_law_18 rfl rfl rfl ?_
      refine jy_aload_n (pc' := 20) F 3 dL_law_19 rfl rfl rfl ?_
      refine jy_slen (pc' := 21) (v := 6) F hX hbl hbA dL_law_20 rfl rfl ?_
      refine jy_bipush (pc' := 23) (v := 6) F dL_law_21 (by decide) rfl ?_
      refine jy_isub (pc' := 24) (v := 0) F dL_law_23 (by decide) rfl ?_
      refine jy_icmp_gt (pc' := 27) (tgt := 2059) F dL_law_24 (by decide) rfl (fun _ => ?_) (fun h => absurd h (by decide))
      refine jy_iconst (pc' := 2060) (v := 1) F dL_law_2059 (by decide) rfl ?_
      exact jy_lawret F hr hlocks (by decide) (by decide) dL_law_2060
set_option maxHeartbeats 4000000 in
set_option maxRecDepth 100000 in
theorem lc_fault {p : Program} {e : Env} {s : State} {m : MethodId} {below : List Frame} {meth : Method} {c : Code} (l : Launch) {b : Nat} {sq : Nat → Int32} (C0 : lw_At p s m meth c b 6 sq) (D : va_G) (k : jK) (F : jy_F p m c code 4 s #[Value.ref b] lw_tbl R_law D vwCl (jT k)) (hN : jy_N jW s) (h0 : Nat) (a2 : Nat) (a4 : Nat) (a5 : Nat) (a6 : Nat) (a7 : Nat) (a8 : Nat) (a9 : Nat) (a10 : Nat) (t0 : Nat) (s0 : Nat) (c1 : Nat) (c2 : Nat) (c3 : Nat) (c4 : Nat) (m0 : Nat) (b1 : Nat) (b2 : Nat) (b3 : Nat) (b4 : Nat) (b5 : Nat) (b6 : Nat) (b7 : Nat) (w0 : Nat) (w1 : Nat) (w2 : Nat) (w3 : Nat) (w4 : Nat) (w5 : Nat) (w6 : Nat) (w7 : Nat) (w8 : Nat) (w9 : Nat) (w10 : Nat) (w11 : Nat) (w12 : Nat) (w13 : Nat) (w14 : Nat) (w15 : Nat) (w16 : Nat) (w17 : Nat) (w18 : Nat) (w19 : Nat) (w20 : Nat) (w21 : Nat) (w22 : Nat)  : JJ p l e room_1 s m #[Value.ref b] below meth c (lw_Z below #[Value.ref b] s) 4 D vwCl (fun q => s.heap.size ≤ q) (va_S (fun q => s.heap.size ≤ q) s.heap) 194 18023 [(h0, .inr (10, [.int 0, .long 0, .long 1, .ref t0, .ref a2, .ref s0, .ref a4, .int 0, .ref a5, .ref a6, .ref a7, .ref a8, .ref a9, .ref a10, .int 0])), (a2, .inr (1, [.ref c1, .int 0, .int (-1), .int (-1), .ref c2, .int 0, .int 0, .int 0, .int 0, .int 0, .ref c3, .ref c4])), (m0, .inr (11, [.ref b1, .ref b2, .int 0, .long 0, .long 1, .ref b3, .ref b4, .ref b5, .ref b6, .ref b7, .int 0, .int 0, .int 0, .int 0, .int 0, .int 0, .int (-1), .int (-1), .int 0, .int 0, .ref w0, .ref w1, .ref w2, .ref w3, .ref w4, .ref w5, .ref w6, .ref w7, .ref w8, .ref w9, .int 0, .int 0, .int 0, .ref w10, .ref w11, .int 0, .ref w12, .ref w13, .ref w14, .ref w15, .ref w16, .ref w17, .ref w18, .ref w19, .ref w20, .int 0, .ref w21, .ref w22, .int 0, .int 0, .int 0]))] 588 [(3, .int 0), (2, .ref m0), (1, .ref h0), (0, .ref b)] [] := by
  obtain ⟨hx, hb, hr, hml, hown, hts, hX, hbl, hlocks, hgv⟩ := id C0
  have hA : ∀ q : Nat, s.heap.size ≤ q → (fun q : Nat => s.heap.size ≤ q) q := fun _ h => h
  have hbA : ¬ (fun q : Nat => s.heap.size ≤ q) b := Nat.not_le.mpr hbl
  refine jy_aload_n (pc' := 589) F 2 dL_law_588 rfl rfl rfl ?_
  refine jy_aload_n (pc' := 590) F 3 dL_law_589 rfl rfl rfl ?_
  refine jy_iload_n (pc' := 591) F 0 dL_law_590 rfl rfl rfl ?_
  refine jy_iconst (pc' := 592) (v := 1) F dL_law_591 (by decide) rfl ?_
  refine jy_iadd (pc' := 593) (v := 1) F dL_law_592 (by decide) rfl ?_
  refine jy_sld (pc' := 594) (v := (sq 1)) F hX hbl hbA dL_law_593 (vp_in_nI (n := 1) (by decide) (by decide)) rfl rfl ?_
  refine jy_calli (pc' := 597) (cells' := 194) (slots' := 18023) (wr := [(m0, .inr (11, [.ref b1, .ref b2, .int 0, .long 0, .long 1, .ref b3, .ref b4, .ref b5, .ref b6, .ref b7, .int 0, .int 0, .int 0, .int 0, .int 0, .int 0, .int (-1), .int (-1), .int 0, .int 0, .ref w0, .ref w1, .ref w2, .ref w3, .ref w4, .ref w5, .ref w6, .ref w7, .ref w8, .ref w9, .int 0, .int 0, .int 0, .ref w10, .ref w11, .int 0, .ref w12, .ref w13, .ref w14, .ref w15, .ref w16, .ref w17, .ref w18, .ref w19, .ref w20, .int 0, .ref w21, .ref w22, .int 0, .int 0, .int 0]))]) hA [0, 1] [2] rfl rfl (by decide) (by decide) (jy_runV (As := [.int (sq 1)]) (b := h0) (q0 := 0) (ci := 10) (C := RX11) (T := TX11) (N := 15) (st := []) F hN (fun sz => c_X11_fault l D k h0 a2 a4 a5 a6 a7 a8 a9 a10 t0 s0 c1 c2 c3 c4 (sq 1) sz ) (jy_cV F gl_c_X11_fault rfl hdX11_fault (lm_171) (lm_991) (lm_992) (lm_993) rfl rfl ⟨by decide, by decide⟩) rfl rfl [0, 1] rfl (by decide) rfl rfl (Nat.le_of_ble_eq_true rfl) dL_law_594 ⟨by decide, by decide⟩) rfl rfl rfl (fun r_3 u_1 e_2 => ?_)
  subst e_2
  refine jy_aload_n (pc' := 598) F 1 dL_law_597 rfl rfl rfl ?_
  refine jy_aload_n (pc' := 599) F 3 dL_law_598 rfl rfl rfl ?_
  refine jy_iload_n (pc' := 600) F 0 dL_law_599 rfl rfl rfl ?_
  refine jy_iconst (pc' := 601) (v := 1) F dL_law_600 (by decide) rfl ?_
  refine jy_iadd (pc' := 602) (v := 1) F dL_law_601 (by decide) rfl ?_
  refine jy_sld (pc' := 603) (v := (sq 1)) F hX hbl hbA dL_law_602 (vp_in_nI (n := 1) (by decide) (by decide)) rfl rfl ?_
  refine jy_calli (pc' := 606) (cells' := 194) (slots' := 18023) (wr := []) hA [0] [] rfl rfl (by decide) (by decide) (jy_runV (As := [.int (sq 1)]) (b := m0) (q0 := 0) (ci := 11) (C := RX12) (T := TX12) (N := 51) (st := [.int (-1)]) F hN (fun sz => c_X12_fault l D k m0 b1 b2 b3 b4 b5 b6 b7 w0 w1 w2 w3 w4 w5 w6 w7 w8 w9 w10 w11 w12 w13 w14 w15 w16 w17 w18 w19 w20 w21 w22 (sq 1) sz ) (jy_cV F gl_c_X12_fault rfl hdX12_fault (lm_185) (lm_1806) (lm_1807) (lm_1808) rfl rfl ⟨by decide, by decide⟩) rfl rfl [0] rfl (by decide) rfl rfl (Nat.le_of_ble_eq_true rfl) dL_law_603 ⟨by decide, by decide⟩) rfl rfl rfl (fun r_6 u_4 e_5 => ?_)
  subst e_5
  refine jy_icmp_eq (pc' := 609) (tgt := 2053) F dL_law_606 (by decide) rfl (fun _ => ?_) (fun h => absurd h (by decide))
  refine jy_iinc (pc' := 2056) (v := 6) (lv' := [(3, .int 6), (2, .ref m0), (1, .ref h0), (0, .ref b)]) F 0 dL_law_2053 rfl (by decide) (by decide) rfl rfl ?_
  refine jy_goto (tgt := 18) F dL_law_2056 (by decide) ?_
  refine jy_iload_n (pc' := 19) F 0 dL_law_18 rfl rfl rfl ?_
  refine jy_aload_n (pc' := 20) F 3 dL_law_19 rfl rfl rfl ?_
  refine jy_slen (pc' := 21) (v := 6) F hX hbl hbA dL_law_20 rfl rfl ?_
  refine jy_bipush (pc' := 23) (v := 6) F dL_law_21 (by decide) rfl ?_
  refine jy_isub (pc' := 24) (v := 0) F dL_law_23 (by decide) rfl ?_
  refine jy_icmp_gt (pc' := 27) (tgt := 2059) F dL_law_24 (by decide) rfl (fun _ => ?_) (fun h => absurd h (by decide))
  refine jy_iconst (pc' := 2060) (v := 1) F dL_law_2059 (by decide) rfl ?_
  exact jy_lawret F hr hlocks (by decide) (by decide) dL_law_2060
