set_option maxHeartbeats 4000000 in
set_option maxRecDepth 100000 in
theorem lc_shortestAt {p : Program} {e : Env} {s : State} {m : MethodId} {below : List Frame} {meth : Method} {c : Code} (l : Launch) {b : Nat} {sq : Nat → Int32} (C0 : lw_At p s m meth c b 6 sq) (D : va_G) (k : jK) (F : jy_F p m c code 4 s #[Value.ref b] lw_tbl R_law D vwCl (jT k)) (hN : jy_N jW s) (h0 : Nat) (a2 : Nat) (a4 : Nat) (a5 : Nat) (a6 : Nat) (a7 : Nat) (a8 : Nat) (a9 : Nat) (a10 : Nat) (t0 : Nat) (s0 : Nat) (s1 : Nat) (s2 : Nat) (s3 : Nat) (m0 : Nat) (b1 : Nat) (b2 : Nat) (b3 : Nat) (b4 : Nat) (b5 : Nat) (b6 : Nat) (b7 : Nat) (w0 : Nat) (w1 : Nat) (w2 : Nat) (w3 : Nat) (w4 : Nat) (w5 : Nat) (w6 : Nat) (w7 : Nat) (w8 : Nat) (w9 : Nat) (w10 : Nat) (w11 : Nat) (w12 : Nat) (w13 : Nat) (w14 : Nat) (w15 : Nat) (w16 : Nat) (w17 : Nat) (w18 : Nat) (w19 : Nat) (w20 : Nat) (w21 : Nat) (w22 : Nat) (fa : Nat → Int32) (ha : fa 4 = -1 ∧ ∀ j, j ≠ 4 → fa j = 0) : JJ p l e room_1 s m #[Value.ref b] below meth c (lw_Z below #[Value.ref b] s) 4 D vwCl (fun q => s.heap.size ≤ q) (va_S (fun q => s.heap.size ≤ q) s.heap) 194 18023 [(h0, .inr (10, [.int 0, .long 0, .long 1, .ref t0, .ref a2, .ref s0, .ref a4, .int 0, .ref a5, .ref a6, .ref a7, .ref a8, .ref a9, .ref a10, .int 0])), (s0, .inr (4, [.int 0, .int 0, .int 0, .int 0, .ref s1, .ref s2, .ref s3])), (m0, .inr (11, [.ref b1, .ref b2, .int 0, .long 0, .long 1, .ref b3, .ref b4, .ref b5, .ref b6, .ref b7, .int 0, .int 0, .int 0, .int 0, .int 0, .int 0, .int (-1), .int (-1), .int 0, .int 0, .ref w0, .ref w1, .ref w2, .ref w3, .ref w4, .ref w5, .ref w6, .ref w7, .ref w8, .ref w9, .int 0, .int 0, .int 0, .ref w10, .ref w11, .int 0, .ref w12, .ref w13, .ref w14, .ref w15, .ref w16, .ref w17, .ref w18, .ref w19, .ref w20, .int 0, .ref w21, .ref w22, .int 0, .int 0, .int 0])), (b1, .inl (k.2.1, 1360, .inl fa))] 1433 [(3, .int 0), (2, .ref m0), (1, .ref h0), (0, .ref b)] [] := by
  obtain ⟨hx, hb, hr, hml, hown, hts, hX, hbl, hlocks, hgv⟩ := id C0
  have hA : ∀ q : Nat, s.heap.size ≤ q → (fun q : Nat => s.heap.size ≤ q) q := fun _ h => h
  have hbA : ¬ (fun q : Nat => s.heap.size ≤ q) b := Nat.not_le.mpr hbl
  refine jy_aload_n (pc' := 1434) F 2 dL_law_1433 rfl rfl rfl ?_
  refine jy_aload_n (pc' := 1435) F 3 dL_law_1434 rfl rfl rfl ?_
  refine jy_iload_n (pc' := 1436) F 0 dL_law_1435 rfl rfl rfl ?_
  refine jy_iconst (pc' := 1437) (v := 1) F dL_law_1436 (by decide) rfl ?_
  refine jy_iadd (pc' := 1438) (v := 1) F dL_law_1437 (by decide) rfl ?_
  refine jy_sld (pc' := 1439) (v := (sq 1)) F hX hbl hbA dL_law_1438 (vp_in_nI (n := 1) (by decide) (by decide)) rfl rfl ?_
  refine jy_aload_n (pc' := 1440) F 3 dL_law_1439 rfl rfl rfl ?_
  refine jy_iload_n (pc' := 1441) F 0 dL_law_1440 rfl rfl rfl ?_
  refine jy_iconst (pc' := 1442) (v := 2) F dL_law_1441 (by decide) rfl ?_
  refine jy_iadd (pc' := 1443) (v := 2) F dL_law_1442 (by decide) rfl ?_
  refine jy_sld (pc' := 1444) (v := (sq 2)) F hX hbl hbA dL_law_1443 (vp_in_nI (n := 2) (by decide) (by decide)) rfl rfl ?_
  refine jy_calli (pc' := 1447) (cells' := 194) (slots' := 18023) (wr := [(m0, .inr (11, [.ref b1, .ref b2, .int 0, .long 0, .long 1, .ref b3, .ref b4, .ref b5, .ref b6, .ref b7, .int 0, .int 0, .int 0, .int 0, .int 0, .int 0, .int (-1), .int (-1), .int 0, .int 0, .ref w0, .ref w1, .ref w2, .ref w3, .ref w4, .ref w5, .ref w6, .ref w7, .ref w8, .ref w9, .int 0, .int 0, .int 0, .ref w10, .ref w11, .int 0, .ref w12, .ref w13, .ref w14, .ref w15, .ref w16, .ref w17, .ref w18, .ref w19, .ref w20, .int 0, .ref w21, .ref w22, .int 0, .int 0, .int 0])), (b1, .inl (k.2.1, 1360, .inl fa))]) hA [0, 1] [2, 3] rfl rfl (by decide) (by decide) (jy_runV (As := [.int (sq 1), .int (sq 2)]) (b := h0) (q0 := 0) (ci := 10) (C := RX11) (T := TX11) (N := 15) (st := []) F hN (fun sz => c_X11_shortestAt l D k h0 a2 a4 a5 a6 a7 a8 a9 a10 t0 s0 s1 s2 s3 (sq 1) (sq 2) sz ) (jy_cV F gl_c_X11_shortestAt rfl hdX11_shortestAt (lm_171) (lm_1414) (lm_1415) (lm_1416) rfl rfl ⟨by decide, by decide⟩) rfl rfl [0, 1] rfl (by decide) rfl rfl (Nat.le_of_ble_eq_true rfl) dL_law_1444 ⟨by decide, by decide⟩) rfl rfl rfl (fun r_3 u_1 e_2 => ?_)
  subst e_2
  refine jy_aload_n (pc' := 1448) F 1 dL_law_1447 rfl rfl rfl ?_
  refine jy_aload_n (pc' := 1449) F 3 dL_law_1448 rfl rfl rfl ?_
  refine jy_iload_n (pc' := 1450) F 0 dL_law_1449 rfl rfl rfl ?_
  refine jy_iconst (pc' := 1451) (v := 1) F dL_law_1450 (by decide) rfl ?_
  refine jy_iadd (pc' := 1452) (v := 1) F dL_law_1451 (by decide) rfl ?_
  refine jy_sld (pc' := 1453) (v := (sq 1)) F hX hbl hbA dL_law_1452 (vp_in_nI (n := 1) (by decide) (by decide)) rfl rfl ?_
  refine jy_aload_n (pc' := 1454) F 3 dL_law_1453 rfl rfl rfl ?_
  refine jy_iload_n (pc' := 1455) F 0 dL_law_1454 rfl rfl rfl ?_
  refine jy_iconst (pc' := 1456) (v := 2) F dL_law_1455 (by decide) rfl ?_
  refine jy_iadd (pc' := 1457) (v := 2) F dL_law_1456 (by decide) rfl ?_
  refine jy_sld (pc' := 1458) (v := (sq 2)) F hX hbl hbA dL_law_1457 (vp_in_nI (n := 2) (by decide) (by decide)) rfl rfl ?_
  refine jy_calli (pc' := 1461) (cells' := 194) (slots' := 18023) (wr := []) hA [0, 1] [] rfl rfl (by decide) (by decide) (jy_runV (As := [.int (sq 1), .int (sq 2)]) (b := m0) (q0 := 0) (ci := 11) (C := RX12) (T := TX12) (N := 51) (st := [.int (-1)]) F hN (fun sz => c_X12_shortestAt l D k m0 b1 b2 b3 b4 b5 b6 b7 w0 w1 w2 w3 w4 w5 w6 w7 w8 w9 w10 w11 w12 w13 w14 w15 w16 w17 w18 w19 w20 w21 w22 fa (sq 1) (sq 2) sz (ha)) (jy_cV F gl_c_X12_shortestAt rfl hdX12_shortestAt (lm_185) (lm_2208) (lm_2209) (lm_2210) rfl rfl ⟨by decide, by decide⟩) rfl rfl [0, 1] rfl (by decide) rfl rfl (Nat.le_of_ble_eq_true rfl) dL_law_1458 ⟨by decide, by decide⟩) rfl rfl rfl (fun r_6 u_4 e_5 => ?_)
  subst e_5
  refine jy_icmp_eq (pc' := 1464) (tgt := 2053) F dL_law_1461 (by decide) rfl (fun _ => ?_) (fun h => absurd h (by decide))
  refine jy_iinc (pc' := 2056) (v := 6) (lv' := [(3, .int 6), (2, .ref m0), (1, .ref h0), (0, .ref b)]) F 0 dL_law_2053 rfl (by decide) (by decide) rfl rfl ?_
  refine jy_goto (tgt := 18) F dL_law_2056 (by decide) ?_
  refine jy_iload_n (pc' := 19) F 0 dL_law_18 rfl rfl rfl ?_
  refine jy_aload_n (pc' := 20) F 3 dL_law_19 rfl rfl rfl ?_
  refine jy_slen (pc' := 21) (v := 6) F hX hbl hbA dL_law_20 rfl rfl ?_
  refine jy_bipush (pc' := 23) (v := 6) F dL_law_21 (by decide) rfl ?_
  refine jy_isub (pc' := 24) (v := 0) F dL_law_23 (by decide) rfl ?_
  refine jy_icmp_gt (pc' := 27) (tgt := 2059) F dL_law_24 (by decide) rfl (fun _ => ?_) (fun h => absurd h (by decide))
  refine jy_iconst (pc' := 2060) (v := 1) F dL_law_2059 (by decide) rfl ?_
  exact jy_lawret F hr hlocks (by decide) (by decide) dL_law_2060
set_option maxHeartbeats 4000000 in
set_option maxRecDepth 100000 in
theorem lc_both {p : Program} {e : Env} {s : State} {m : MethodId} {below : List Frame} {meth : Method} {c : Code} (l : Launch) {b : Nat} {sq : Nat → Int32} (C0 : lw_At p s m meth c b 6 sq) (D : va_G) (k : jK) (F : jy_F p m c code 4 s #[Value.ref b] lw_tbl R_law D vwCl (jT k)) (hN : jy_N jW s) (h0 : Nat) (a2 : Nat) (a4 : Nat) (a5 : Nat) (a6 : Nat) (a7 : Nat) (a8 : Nat) (a9 : Nat) (a10 : Nat) (t0 : Nat) (s0 : Nat) (s1 : Nat) (s2 : Nat) (s3 : Nat) (m0 : Nat) (b1 : Nat) (b2 : Nat) (b3 : Nat) (b4 : Nat) (b5 : Nat) (b6 : Nat) (b7 : Nat) (w0 : Nat) (w1 : Nat) (w2 : Nat) (w3 : Nat) (w4 : Nat) (w5 : Nat) (w6 : Nat) (w7 : Nat) (w8 : Nat) (w9 : Nat) (w10 : Nat) (w11 : Nat) (w12 : Nat) (w13 : Nat) (w14 : Nat) (w15 : Nat) (w16 : Nat) (w17 : Nat) (w18 : Nat) (w19 : Nat) (w20 : Nat) (w21 : Nat) (w22 : Nat) (fa : Nat → Int32) (ha : fa 4 = -1 ∧ ∀ j, j ≠ 4 → fa j = 0) : JJ p l e room_1 s m #[Value.ref b] below meth c (lw_Z below #[Value.ref b] s) 4 D vwCl (fun q => s.heap.size ≤ q) (va_S (fun q => s.heap.size ≤ q) s.heap) 194 18023 [(h0, .inr (10, [.int 0, .long 0, .long 1, .ref t0, .ref a2, .ref s0, .ref a4, .int 0, .ref a5, .ref a6, .ref a7, .ref a8, .ref a9, .ref a10, .int 0])), (s0, .inr (4, [.int 0, .int 0, .int 0, .int 0, .ref s1, .ref s2, .ref s3])), (m0, .inr (11, [.ref b1, .ref b2, .int 0, .long 0, .long 1, .ref b3, .ref b4, .ref b5, .ref b6, .ref b7, .int 0, .int 0, .int 0, .int 0, .int 0, .int 0, .int (-1), .int (-1), .int 0, .int 0, .ref w0, .ref w1, .ref w2, .ref w3, .ref w4, .ref w5, .ref w6, .ref w7, .ref w8, .ref w9, .int 0, .int 0, .int 0, .ref w10, .ref w11, .int 0, .ref w12, .ref w13, .ref w14, .ref w15, .ref w16, .ref w17, .ref w18, .ref w19, .ref w20, .int 0, .ref w21, .ref w22, .int 0, .int 0, .int 0])), (b1, .inl (k.2.1, 1360, .inl fa))] 1466 [(3, .int 0), (2, .ref m0), (1, .ref h0), (0, .ref b)] [] := by
  obtain ⟨hx, hb, hr, hml, hown, hts, hX, hbl, hlocks, hgv⟩ := id C0
  have hA : ∀ q : Nat, s.heap.size ≤ q → (fun q : Nat => s.heap.size ≤ q) q := fun _ h => h
  have hbA : ¬ (fun q : Nat => s.heap.size ≤ q) b := Nat.not_le.mpr hbl
  refine jy_aload_n (pc' := 1467) F 2 dL_law_1466 rfl rfl rfl ?_
  refine jy_aload_n (pc' := 1468) F 3 dL_law_1467 rfl rfl rfl ?_
  refine jy_iload_n (pc' := 1469) F 0 dL_law_1468 rfl rfl rfl ?_
  refine jy_iconst (pc' := 1470) (v := 1) F dL_law_1469 (by decide) rfl ?_
  refine jy_iadd (pc' := 1471) (v := 1) F dL_law_1470 (by decide) rfl ?_
  refine jy_sld (pc' := 1472) (v := (sq 1)) F hX hbl hbA dL_law_1471 (vp_in_nI (n := 1) (by decide) (by decide)) rfl rfl ?_
  refine jy_aload_n (pc' := 1473) F 3 dL_law_1472 rfl rfl rfl ?_
  refine jy_iload_n (pc' := 1474) F 0 dL_law_1473 rfl rfl rfl ?_
  refine jy_iconst (pc' := 1475) (v := 2) F dL_law_1474 (by decide) rfl ?_
  refine jy_iadd (pc' := 1476) (v := 2) F dL_law_1475 (by decide) rfl ?_
  refine jy_sld (pc' := 1477) (v := (sq 2)) F hX hbl hbA dL_law_1476 (vp_in_nI (n := 2) (by decide) (by decide)) rfl rfl ?_
  refine jy_calli (pc' := 1480) (cells' := 194) (slots' := 18023) (wr := [(m0, .inr (11, [.ref b1, .ref b2, .int 0, .long 0, .long 1, .ref b3, .ref b4, .ref b5, .ref b6, .ref b7, .int 0, .int 0, .int 0, .int 0, .int 0, .int 0, .int (-1), .int (-1), .int 0, .int 0, .ref w0, .ref w1, .ref w2, .ref w3, .ref w4, .ref w5, .ref w6, .ref w7, .ref w8, .ref w9, .int 0, .int 0, .int 0, .ref w10, .ref w11, .int 0, .ref w12, .ref w13, .ref w14, .ref w15, .ref w16, .ref w17, .ref w18, .ref w19, .ref w20, .int 0, .ref w21, .ref w22, .int 0, .int 0, .int 0])), (b1, .inl (k.2.1, 1360, .inl fa))]) hA [0, 1] [2, 3] rfl rfl (by decide) (by decide) (jy_runV (As := [.int (sq 1), .int (sq 2)]) (b := h0) (q0 := 0) (ci := 10) (C := RX11) (T := TX11) (N := 15) (st := []) F hN (fun sz => c_X11_both l D k h0 a2 a4 a5 a6 a7 a8 a9 a10 t0 s0 s1 s2 s3 (sq 1) (sq 2) sz ) (jy_cV F gl_c_X11_both rfl hdX11_both (lm_171) (lm_1426) (lm_1427) (lm_1428) rfl rfl ⟨by decide, by decide⟩) rfl rfl [0, 1] rfl (by decide) rfl rfl (Nat.le_of_ble_eq_true rfl) dL_law_1477 ⟨by decide, by decide⟩) rfl rfl rfl (fun r_3 u_1 e_2 => ?_)
  subst e_2
  refine jy_aload_n (pc' := 1481) F 1 dL_law_1480 rfl rfl rfl ?_
  refine jy_aload_n (pc' := 1482) F 3 dL_law_1481 rfl rfl rfl ?_
  refine jy_iload_n (pc' := 1483) F 0 dL_law_1482 rfl rfl rfl ?_
  refine jy_iconst (pc' := 1484) (v := 1) F dL_law_1483 (by decide) rfl ?_
  refine jy_iadd (pc' := 1485) (v := 1) F dL_law_1484 (by decide) rfl ?_
  refine jy_sld (pc' := 1486) (v := (sq 1)) F hX hbl hbA dL_law_1485 (vp_in_nI (n := 1) (by decide) (by decide)) rfl rfl ?_
  refine jy_aload_n (pc' := 1487) F 3 dL_law_1486 rfl rfl rfl ?_
  refine jy_iload_n (pc' := 1488) F 0 dL_law_1487 rfl rfl rfl ?_
  refine jy_iconst (pc' := 1489) (v := 2) F dL_law_1488 (by decide) rfl ?_
  refine jy_iadd (pc' := 1490) (v := 2) F dL_law_1489 (by decide) rfl ?_
  refine jy_sld (pc' := 1491) (v := (sq 2)) F hX hbl hbA dL_law_1490 (vp_in_nI (n := 2) (by decide) (by decide)) rfl rfl ?_
  refine jy_calli (pc' := 1494) (cells' := 194) (slots' := 18023) (wr := []) hA [0, 1] [] rfl rfl (by decide) (by decide) (jy_runV (As := [.int (sq 1), .int (sq 2)]) (b := m0) (q0 := 0) (ci := 11) (C := RX12) (T := TX12) (N := 51) (st := [.int (-1)]) F hN (fun sz => c_X12_both l D k m0 b1 b2 b3 b4 b5 b6 b7 w0 w1 w2 w3 w4 w5 w6 w7 w8 w9 w10 w11 w12 w13 w14 w15 w16 w17 w18 w19 w20 w21 w22 fa (sq 1) (sq 2) sz (ha)) (jy_cV F gl_c_X12_both rfl hdX12_both (lm_185) (lm_2224) (lm_2225) (lm_2226) rfl rfl ⟨by decide, by decide⟩) rfl rfl [0, 1] rfl (by decide) rfl rfl (Nat.le_of_ble_eq_true rfl) dL_law_1491 ⟨by decide, by decide⟩) rfl rfl rfl (fun r_6 u_4 e_5 => ?_)
  subst e_5
  refine jy_icmp_eq (pc' := 1497) (tgt := 2053) F dL_law_1494 (by decide) rfl (fun _ => ?_) (fun h => absurd h (by decide))
  refine jy_iinc (pc' := 2056) (v := 6) (lv' := [(3, .int 6), (2, .ref m0), (1, .ref h0), (0, .ref b)]) F 0 dL_law_2053 rfl (by decide) (by decide) rfl rfl ?_
  refine jy_goto (tgt := 18) F dL_law_2056 (by decide) ?_
  refine jy_iload_n (pc' := 19) F 0 dL_law_18 rfl rfl rfl ?_
  refine jy_aload_n (pc' := 20) F 3 dL_law_19 rfl rfl rfl ?_
  refine jy_slen (pc' := 21) (v := 6) F hX hbl hbA dL_law_20 rfl rfl ?_
  refine jy_bipush (pc' := 23) (v := 6) F dL_law_21 (by decide) rfl ?_
  refine jy_isub (pc' := 24) (v := 0) F dL_law_23 (by decide) rfl ?_
  refine jy_icmp_gt (pc' := 27) (tgt := 2059) F dL_law_24 (by decide) rfl (fun _ => ?_) (fun h => absurd h (by decide))
  refine jy_iconst (pc' := 2060) (v := 1) F dL_law_2059 (by decide) rfl ?_
  exact jy_lawret F hr hlocks (by decide) (by decide) dL_law_2060
set_option maxHeartbeats 4000000 in
set_option maxRecDepth 100000 in
theorem lc_bothAt {p : Program} {e : Env} {s : State} {m : MethodId} {below : List Frame} {meth : Method} {c : Code} (l : Launch) {b : Nat} {sq : Nat → Int32} (C0 : lw_At p s m meth c b 6 sq) (D : va_G) (k : jK) (F : jy_F p m c code 4 s #[Value.ref b] lw_tbl R_law D vwCl (jT k)) (hN : jy_N jW s) (h0 : Nat) (a2 : Nat) (a4 : Nat) (a5 : Nat) (a6 : Nat) (a7 : Nat) (a8 : Nat) (a9 : Nat) (a10 : Nat) (t0 : Nat) (s0 : Nat) (s1 : Nat) (s2 : Nat) (s3 : Nat) (m0 : Nat) (b1 : Nat) (b2 : Nat) (b3 : Nat) (b4 : Nat) (b5 : Nat) (b6 : Nat) (b7 : Nat) (w0 : Nat) (w1 : Nat) (w2 : Nat) (w3 : Nat) (w4 : Nat) (w5 : Nat) (w6 : Nat) (w7 : Nat) (w8 : Nat) (w9 : Nat) (w10 : Nat) (w11 : Nat) (w12 : Nat) (w13 : Nat) (w14 : Nat) (w15 : Nat) (w16 : Nat) (w17 : Nat) (w18 : Nat) (w19 : Nat) (w20 : Nat) (w21 : Nat) (w22 : Nat) (fa : Nat → Int32) (ha : fa 4 = -1 ∧ ∀ j, j ≠ 4 → fa j = 0) : JJ p l e room_1 s m #[Value.ref b] below meth c (lw_Z below #[Value.ref b] s) 4 D vwCl (fun q => s.heap.size ≤ q) (va_S (fun q => s.heap.size ≤ q) s.heap) 194 18023 [(h0, .inr (10, [.int 0, .long 0, .long 1, .ref t0, .ref a2, .ref s0, .ref a4, .int 0, .ref a5, .ref a6, .ref a7, .ref a8, .ref a9, .ref a10, .int 0])), (s0, .inr (4, [.int 0, .int 0, .int 0, .int 0, .ref s1, .ref s2, .ref s3])), (m0, .inr (11, [.ref b1, .ref b2, .int 0, .long 0, .long 1, .ref b3, .ref b4, .ref b5, .ref b6, .ref b7, .int 0, .int 0, .int 0, .int 0, .int 0, .int 0, .int (-1), .int (-1), .int 0, .int 0, .ref w0, .ref w1, .ref w2, .ref w3, .ref w4, .ref w5, .ref w6, .ref w7, .ref w8, .ref w9, .int 0, .int 0, .int 0, .ref w10, .ref w11, .int 0, .ref w12, .ref w13, .ref w14, .ref w15, .ref w16, .ref w17, .ref w18, .ref w19, .ref w20, .int 0, .ref w21, .ref w22, .int 0, .int 0, .int 0])), (b1, .inl (k.2.1, 1360, .inl fa))] 1499 [(3, .int 0), (2, .ref m0), (1, .ref h0), (0, .ref b)] [] := by
  obtain ⟨hx, hb, hr, hml, hown, hts, hX, hbl, hlocks, hgv⟩ := id C0
  have hA : ∀ q : Nat, s.heap.size ≤ q → (fun q : Nat => s.heap.size ≤ q) q := fun _ h => h
  have hbA : ¬ (fun q : Nat => s.heap.size ≤ q) b := Nat.not_le.mpr hbl
  refine jy_aload_n (pc' := 1500) F 2 dL_law_1499 rfl rfl rfl ?_
  refine jy_aload_n (pc' := 1501) F 3 dL_law_1500 rfl rfl rfl ?_
  refine jy_iload_n (pc' := 1502) F 0 dL_law_1501 rfl rfl rfl ?_
  refine jy_iconst (pc' := 1503) (v := 1) F dL_law_1502 (by decide) rfl ?_
  refine jy_iadd (pc' := 1504) (v := 1) F dL_law_1503 (by decide) rfl ?_
  refine jy_sld (pc' := 1505) (v := (sq 1)) F hX hbl hbA dL_law_1504 (vp_in_nI (n := 1) (by decide) (by decide)) rfl rfl ?_
  refine jy_aload_n (pc' := 1506) F 3 dL_law_1505 rfl rfl rfl ?_
  refine jy_iload_n (pc' := 1507) F 0 dL_law_1506 rfl rfl rfl ?_
  refine jy_iconst (pc' := 1508) (v := 2) F dL_law_1507 (by decide) rfl ?_
  refine jy_iadd (pc' := 1509) (v := 2) F dL_law_1508 (by decide) rfl ?_
  refine jy_sld (pc' := 1510) (v := (sq 2)) F hX hbl hbA dL_law_1509 (vp_in_nI (n := 2) (by decide) (by decide)) rfl rfl ?_
  refine jy_aload_n (pc' := 1511) F 3 dL_law_1510 rfl rfl rfl ?_
  refine jy_iload_n (pc' := 1512) F 0 dL_law_1511 rfl rfl rfl ?_
  refine jy_iconst (pc' := 1513) (v := 3) F dL_law_1512 (by decide) rfl ?_
  refine jy_iadd (pc' := 1514) (v := 3) F dL_law_1513 (by decide) rfl ?_
  refine jy_sld (pc' := 1515) (v := (sq 3)) F hX hbl hbA dL_law_1514 (vp_in_nI (n := 3) (by decide) (by decide)) rfl rfl ?_
  refine jy_calli (pc' := 1518) (cells' := 194) (slots' := 18023) (wr := [(m0, .inr (11, [.ref b1, .ref b2, .int 0, .long 0, .long 1, .ref b3, .ref b4, .ref b5, .ref b6, .ref b7, .int 0, .int 0, .int 0, .int 0, .int 0, .int 0, .int (-1), .int (-1), .int 0, .int 0, .ref w0, .ref w1, .ref w2, .ref w3, .ref w4, .ref w5, .ref w6, .ref w7, .ref w8, .ref w9, .int 0, .int 0, .int 0, .ref w10, .ref w11, .int 0, .ref w12, .ref w13, .ref w14, .ref w15, .ref w16, .ref w17, .ref w18, .ref w19, .ref w20, .int 0, .ref w21, .ref w22, .int 0, .int 0, .int 0])), (b1, .inl (k.2.1, 1360, .inl fa))]) hA [0, 1] [2, 3] rfl rfl (by decide) (by decide) (jy_runV (As := [.int (sq 1), .int (sq 2), .int (sq 3)]) (b := h0) (q0 := 0) (ci := 10) (C := RX11) (T := TX11) (N := 15) (st := []) F hN (fun sz => c_X11_bothAt l D k h0 a2 a4 a5 a6 a7 a8 a9 a10 t0 s0 s1 s2 s3 (sq 1) (sq 2) (sq 3) sz ) (jy_cV F gl_c_X11_bothAt rfl hdX11_bothAt (lm_171) (lm_1430) (lm_1431) (lm_1432) rfl rfl ⟨by decide, by decide⟩) rfl rfl [0, 1] rfl (by decide) rfl rfl (Nat.le_of_ble_eq_true rfl) dL_law_1515 ⟨by decide, by decide⟩) rfl rfl rfl (fun r_3 u_1 e_2 => ?_)
  subst e_2
  refine jy_aload_n (pc' := 1519) F 1 dL_law_1518 rfl rfl rfl ?_
  refine jy_aload_n (pc' := 1520) F 3 dL_law_1519 rfl rfl rfl ?_
  refine jy_iload_n (pc' := 1521) F 0 dL_law_1520 rfl rfl rfl ?_
  refine jy_iconst (pc' := 1522) (v := 1) F dL_law_1521 (by decide) rfl ?_
  refine jy_iadd (pc' := 1523) (v := 1) F dL_law_1522 (by decide) rfl ?_
  refine jy_sld (pc' := 1524) (v := (sq 1)) F hX hbl hbA dL_law_1523 (vp_in_nI (n := 1) (by decide) (by decide)) rfl rfl ?_
  refine jy_aload_n (pc' := 1525) F 3 dL_law_1524 rfl rfl rfl ?_
  refine jy_iload_n (pc' := 1526) F 0 dL_law_1525 rfl rfl rfl ?_
  refine jy_iconst (pc' := 1527) (v := 2) F dL_law_1526 (by decide) rfl ?_
  refine jy_iadd (pc' := 1528) (v := 2) F dL_law_1527 (by decide) rfl ?_
  refine jy_sld (pc' := 1529) (v := (sq 2)) F hX hbl hbA dL_law_1528 (vp_in_nI (n := 2) (by decide) (by decide)) rfl rfl ?_
  refine jy_aload_n (pc' := 1530) F 3 dL_law_1529 rfl rfl rfl ?_
  refine jy_iload_n (pc' := 1531) F 0 dL_law_1530 rfl rfl rfl ?_
  refine jy_iconst (pc' := 1532) (v := 3) F dL_law_1531 (by decide) rfl ?_
  refine jy_iadd (pc' := 1533) (v := 3) F dL_law_1532 (by decide) rfl ?_
  refine jy_sld (pc' := 1534) (v := (sq 3)) F hX hbl hbA dL_law_1533 (vp_in_nI (n := 3) (by decide) (by decide)) rfl rfl ?_
  refine jy_calli (pc' := 1537) (cells' := 194) (slots' := 18023) (wr := []) hA [0, 1] [] rfl rfl (by decide) (by decide) (jy_runV (As := [.int (sq 1), .int (sq 2), .int (sq 3)]) (b := m0) (q0 := 0) (ci := 11) (C := RX12) (T := TX12) (N := 51) (st := [.int (-1)]) F hN (fun sz => c_X12_bothAt l D k m0 b1 b2 b3 b4 b5 b6 b7 w0 w1 w2 w3 w4 w5 w6 w7 w8 w9 w10 w11 w12 w13 w14 w15 w16 w17 w18 w19 w20 w21 w22 fa (sq 1) (sq 2) (sq 3) sz (ha)) (jy_cV F gl_c_X12_bothAt rfl hdX12_bothAt (lm_185) (lm_2228) (lm_2229) (lm_2230) rfl rfl ⟨by decide, by decide⟩) rfl rfl [0, 1] rfl (by decide) rfl rfl (Nat.le_of_ble_eq_true rfl) dL_law_1534 ⟨by decide, by decide⟩) rfl rfl rfl (fun r_6 u_4 e_5 => ?_)
  subst e_5
  refine jy_icmp_eq (pc' := 1540) (tgt := 2053) F dL_law_1537 (by decide) rfl (fun _ => ?_) (fun h => absurd h (by decide))
  refine jy_iinc (pc' := 2056) (v := 6) (lv' := [(3, .int 6), (2, .ref m0), (1, .ref h0), (0, .ref b)]) F 0 dL_law_2053 rfl (by decide) (by decide) rfl rfl ?_
  refine jy_goto (tgt := 18) F dL_law_2056 (by decide) ?_
  refine jy_iload_n (pc' := 19) F 0 dL_law_18 rfl rfl rfl ?_
  refine jy_aload_n (pc' := 20) F 3 dL_law_19 rfl rfl rfl ?_
  refine jy_slen (pc' := 21) (v := 6) F hX hbl hbA dL_law_20 rfl rfl ?_
  refine jy_bipush (pc' := 23) (v := 6) F dL_law_21 (by decide) rfl ?_
  refine jy_isub (pc' := 24) (v := 0) F dL_law_23 (by decide) rfl ?_
  refine jy_icmp_gt (pc' := 27) (tgt := 2059) F dL_law_24 (by decide) rfl (fun _ => ?_) (fun h => absurd h (by decide))
  refine jy_iconst (pc' := 2060) (v := 1) F dL_law_2059 (by decide) rfl ?_
  exact jy_lawret F hr hlocks (by decide) (by decide) dL_law_2060
set_option maxHeartbeats 4000000 in
set_option maxRecDepth 100000 in
theorem lc_parting {p : Program} {e : Env} {s : State} {m : MethodId} {below : List Frame} {meth : Method} {c : Code} (l : Launch) {b : Nat} {sq : Nat → Int32} (C0 : lw_At p s m meth c b 6 sq) (D : va_G) (k : jK) (F : jy_F p m c code 4 s #[Value.ref b] lw_tbl R_law D vwCl (jT k)) (hN : jy_N jW s) (h0 : Nat) (a2 : Nat) (a4 : Nat) (a5 : Nat) (a6 : Nat) (a7 : Nat) (a8 : Nat) (a9 : Nat) (a10 : Nat) (t0 : Nat) (s0 : Nat) (s1 : Nat) (s2 : Nat) (s3 : Nat) (m0 : Nat) (b1 : Nat) (b2 : Nat) (b3 : Nat) (b4 : Nat) (b5 : Nat) (b6 : Nat) (b7 : Nat) (w0 : Nat) (w1 : Nat) (w2 : Nat) (w3 : Nat) (w4 : Nat) (w5 : Nat) (w6 : Nat) (w7 : Nat) (w8 : Nat) (w9 : Nat) (w10 : Nat) (w11 : Nat) (w12 : Nat) (w13 : Nat) (w14 : Nat) (w15 : Nat) (w16 : Nat) (w17 : Nat) (w18 : Nat) (w19 : Nat) (w20 : Nat) (w21 : Nat) (w22 : Nat) (fa : Nat → Int32) (ha : fa 4 = -1 ∧ ∀ j, j ≠ 4 → fa j = 0) : JJ p l e room_1 s m #[Value.ref b] below meth c (lw_Z below #[Value.ref b] s) 4 D vwCl (fun q => s.heap.size ≤ q) (va_S (fun q => s.heap.size ≤ q) s.heap) 194 18023 [(h0, .inr (10, [.int 0, .long 0, .long 1, .ref t0, .ref a2, .ref s0, .ref a4, .int 0, .ref a5, .ref a6, .ref a7, .ref a8, .ref a9, .ref a10, .int 0])), (s0, .inr (4, [.int 0, .int 0, .int 0, .int 0, .ref s1, .ref s2, .ref s3])), (m0, .inr (11, [.ref b1, .ref b2, .int 0, .long 0, .long 1, .ref b3, .ref b4, .ref b5, .ref b6, .ref b7, .int 0, .int 0, .int 0, .int 0, .int 0, .int 0, .int (-1), .int (-1), .int 0, .int 0, .ref w0, .ref w1, .ref w2, .ref w3, .ref w4, .ref w5, .ref w6, .ref w7, .ref w8, .ref w9, .int 0, .int 0, .int 0, .ref w10, .ref w11, .int 0, .ref w12, .ref w13, .ref w14, .ref w15, .ref w16, .ref w17, .ref w18, .ref w19, .ref w20, .int 0, .ref w21, .ref w22, .int 0, .int 0, .int 0])), (b1, .inl (k.2.1, 1360, .inl fa))] 1542 [(3, .int 0), (2, .ref m0), (1, .ref h0), (0, .ref b)] [] := by
  obtain ⟨hx, hb, hr, hml, hown, hts, hX, hbl, hlocks, hgv⟩ := id C0
  have hA : ∀ q : Nat, s.heap.size ≤ q → (fun q : Nat => s.heap.size ≤ q) q := fun _ h => h
  have hbA : ¬ (fun q : Nat => s.heap.size ≤ q) b := Nat.not_le.mpr hbl
  refine jy_aload_n (pc' := 1543) F 2 dL_law_1542 rfl rfl rfl ?_
  refine jy_aload_n (pc' := 1544) F 3 dL_law_1543 rfl rfl rfl ?_
  refine jy_iload_n (pc' := 1545) F 0 dL_law_1544 rfl rfl rfl ?_
  refine jy_iconst (pc' := 1546) (v := 1) F dL_law_1545 (by decide) rfl ?_
  refine jy_iadd (pc' := 1547) (v := 1) F dL_law_1546 (by decide) rfl ?_
  refine jy_sld (pc' := 1548) (v := (sq 1)) F hX hbl hbA dL_law_1547 (vp_in_nI (n := 1) (by decide) (by decide)) rfl rfl ?_
  refine jy_aload_n (pc' := 1549) F 3 dL_law_1548 rfl rfl rfl ?_
  refine jy_iload_n (pc' := 1550) F 0 dL_law_1549 rfl rfl rfl ?_
  refine jy_iconst (pc' := 1551) (v := 2) F dL_law_1550 (by decide) rfl ?_
  refine jy_iadd (pc' := 1552) (v := 2) F dL_law_1551 (by decide) rfl ?_
  refine jy_sld (pc' := 1553) (v := (sq 2)) F hX hbl hbA dL_law_1552 (vp_in_nI (n := 2) (by decide) (by decide)) rfl rfl ?_
  refine jy_calli (pc' := 1556) (cells' := 194) (slots' := 18023) (wr := [(m0, .inr (11, [.ref b1, .ref b2, .int 0, .long 0, .long 1, .ref b3, .ref b4, .ref b5, .ref b6, .ref b7, .int 0, .int 0, .int 0, .int 0, .int 0, .int 0, .int (-1), .int (-1), .int 0, .int 0, .ref w0, .ref w1, .ref w2, .ref w3, .ref w4, .ref w5, .ref w6, .ref w7, .ref w8, .ref w9, .int 0, .int 0, .int 0, .ref w10, .ref w11, .int 0, .ref w12, .ref w13, .ref w14, .ref w15, .ref w16, .ref w17, .ref w18, .ref w19, .ref w20, .int 0, .ref w21, .ref w22, .int 0, .int 0, .int 0])), (b1, .inl (k.2.1, 1360, .inl fa))]) hA [0, 1] [2, 3] rfl rfl (by decide) (by decide) (jy_runV (As := [.int (sq 1), .int (sq 2)]) (b := h0) (q0 := 0) (ci := 10) (C := RX11) (T := TX11) (N := 15) (st := []) F hN (fun sz => c_X11_parting l D k h0 a2 a4 a5 a6 a7 a8 a9 a10 t0 s0 s1 s2 s3 (sq 1) (sq 2) sz ) (jy_cV F gl_c_X11_parting rfl hdX11_parting (lm_171) (lm_1434) (lm_1435) (lm_1436) rfl rfl ⟨by decide, by decide⟩) rfl rfl [0, 1] rfl (by decide) rfl rfl (Nat.le_of_ble_eq_true rfl) dL_law_1553 ⟨by decide, by decide⟩) rfl rfl rfl (fun r_3 u_1 e_2 => ?_)
  subst e_2
  refine jy_aload_n (pc' := 1557) F 1 dL_law_1556 rfl rfl rfl ?_
  refine jy_aload_n (pc' := 1558) F 3 dL_law_1557 rfl rfl rfl ?_
  refine jy_iload_n (pc' := 1559) F 0 dL_law_1558 rfl rfl rfl ?_
  refine jy_iconst (pc' := 1560) (v := 1) F dL_law_1559 (by decide) rfl ?_
  refine jy_iadd (pc' := 1561) (v := 1) F dL_law_1560 (by decide) rfl ?_
  refine jy_sld (pc' := 1562) (v := (sq 1)) F hX hbl hbA dL_law_1561 (vp_in_nI (n := 1) (by decide) (by decide)) rfl rfl ?_
  refine jy_aload_n (pc' := 1563) F 3 dL_law_1562 rfl rfl rfl ?_
  refine jy_iload_n (pc' := 1564) F 0 dL_law_1563 rfl rfl rfl ?_
  refine jy_iconst (pc' := 1565) (v := 2) F dL_law_1564 (by decide) rfl ?_
  refine jy_iadd (pc' := 1566) (v := 2) F dL_law_1565 (by decide) rfl ?_
  refine jy_sld (pc' := 1567) (v := (sq 2)) F hX hbl hbA dL_law_1566 (vp_in_nI (n := 2) (by decide) (by decide)) rfl rfl ?_
  refine jy_calli (pc' := 1570) (cells' := 194) (slots' := 18023) (wr := []) hA [0, 1] [] rfl rfl (by decide) (by decide) (jy_runV (As := [.int (sq 1), .int (sq 2)]) (b := m0) (q0 := 0) (ci := 11) (C := RX12) (T := TX12) (N := 51) (st := [.int (-1)]) F hN (fun sz => c_X12_parting l D k m0 b1 b2 b3 b4 b5 b6 b7 w0 w1 w2 w3 w4 w5 w6 w7 w8 w9 w10 w11 w12 w13 w14 w15 w16 w17 w18 w19 w20 w21 w22 fa (sq 1) (sq 2) sz (ha)) (jy_cV F gl_c_X12_parting rfl hdX12_parting (lm_185) (lm_2232) (lm_2233) (lm_2234) rfl rfl ⟨by decide, by decide⟩) rfl rfl [0, 1] rfl (by decide) rfl rfl (Nat.le_of_ble_eq_true rfl) dL_law_1567 ⟨by decide, by decide⟩) rfl rfl rfl (fun r_6 u_4 e_5 => ?_)
  subst e_5
  refine jy_icmp_eq (pc' := 1573) (tgt := 2053) F dL_law_1570 (by decide) rfl (fun _ => ?_) (fun h => absurd h (by decide))
  refine jy_iinc (pc' := 2056) (v := 6) (lv' := [(3, .int 6), (2, .ref m0), (1, .ref h0), (0, .ref b)]) F 0 dL_law_2053 rfl (by decide) (by decide) rfl rfl ?_
  refine jy_goto (tgt := 18) F dL_law_2056 (by decide) ?_
  refine jy_iload_n (pc' := 19) F 0 dL_law_18 rfl rfl rfl ?_
  refine jy_aload_n (pc' := 20) F 3 dL_law_19 rfl rfl rfl ?_
  refine jy_slen (pc' := 21) (v := 6) F hX hbl hbA dL_law_20 rfl rfl ?_
  refine jy_bipush (pc' := 23) (v := 6) F dL_law_21 (by decide) rfl ?_
  refine jy_isub (pc' := 24) (v := 0) F dL_law_23 (by decide) rfl ?_
  refine jy_icmp_gt (pc' := 27) (tgt := 2059) F dL_law_24 (by decide) rfl (fun _ => ?_) (fun h => absurd h (by decide))
  refine jy_iconst (pc' := 2060) (v := 1) F dL_law_2059 (by decide) rfl ?_
  exact jy_lawret F hr hlocks (by decide) (by decide) dL_law_2060
set_option maxHeartbeats 4000000 in
set_option maxRecDepth 100000 in
theorem lc_partingAt {p : Program} {e : Env} {s : State} {m : MethodId} {below : List Frame} {meth : Method} {c : Code} (l : Launch) {b : Nat} {sq : Nat → Int32} (C0 : lw_At p s m meth c b 6 sq) (D : va_G) (k : jK) (F : jy_F p m c code 4 s #[Value.ref b] lw_tbl R_law D vwCl (jT k)) (hN : jy_N jW s) (h0 : Nat) (a2 : Nat) (a4 : Nat) (a5 : Nat) (a6 : Nat) (a7 : Nat) (a8 : Nat) (a9 : Nat) (a10 : Nat) (t0 : Nat) (s0 : Nat) (s1 : Nat) (s2 : Nat) (s3 : Nat) (m0 : Nat) (b1 : Nat) (b2 : Nat) (b3 : Nat) (b4 : Nat) (b5 : Nat) (b6 : Nat) (b7 : Nat) (w0 : Nat) (w1 : Nat) (w2 : Nat) (w3 : Nat) (w4 : Nat) (w5 : Nat) (w6 : Nat) (w7 : Nat) (w8 : Nat) (w9 : Nat) (w10 : Nat) (w11 : Nat) (w12 : Nat) (w13 : Nat) (w14 : Nat) (w15 : Nat) (w16 : Nat) (w17 : Nat) (w18 : Nat) (w19 : Nat) (w20 : Nat) (w21 : Nat) (w22 : Nat) (fa : Nat → Int32) (ha : fa 4 = -1 ∧ ∀ j, j ≠ 4 → fa j = 0) : JJ p l e room_1 s m #[Value.ref b] below meth c (lw_Z below #[Value.ref b] s) 4 D vwCl (fun q => s.heap.size ≤ q) (va_S (fun q => s.heap.size ≤ q) s.heap) 194 18023 [(h0, .inr (10, [.int 0, .long 0, .long 1, .ref t0, .ref a2, .ref s0, .ref a4, .int 0, .ref a5, .ref a6, .ref a7, .ref a8, .ref a9, .ref a10, .int 0])), (s0, .inr (4, [.int 0, .int 0, .int 0, .int 0, .ref s1, .ref s2, .ref s3])), (m0, .inr (11, [.ref b1, .ref b2, .int 0, .long 0, .long 1, .ref b3, .ref b4, .ref b5, .ref b6, .ref b7, .int 0, .int 0, .int 0, .int 0, .int 0, .int 0, .int (-1), .int (-1), .int 0, .int 0, .ref w0, .ref w1, .ref w2, .ref w3, .ref w4, .ref w5, .ref w6, .ref w7, .ref w8, .ref w9, .int 0, .int 0, .int 0, .ref w10, .ref w11, .int 0, .ref w12, .ref w13, .ref w14, .ref w15, .ref w16, .ref w17, .ref w18, .ref w19, .ref w20, .int 0, .ref w21, .ref w22, .int 0, .int 0, .int 0])), (b1, .inl (k.2.1, 1360, .inl fa))] 1575 [(3, .int 0), (2, .ref m0), (1, .ref h0), (0, .ref b)] [] := by
  obtain ⟨hx, hb, hr, hml, hown, hts, hX, hbl, hlocks, hgv⟩ := id C0
  have hA : ∀ q : Nat, s.heap.size ≤ q → (fun q : Nat => s.heap.size ≤ q) q := fun _ h => h
  have hbA : ¬ (fun q : Nat => s.heap.size ≤ q) b := Nat.not_le.mpr hbl
  refine jy_aload_n (pc' := 1576) F 2 dL_law_1575 rfl rfl rfl ?_
  refine jy_aload_n (pc' := 1577) F 3 dL_law_1576 rfl rfl rfl ?_
  refine jy_iload_n (pc' := 1578) F 0 dL_law_1577 rfl rfl rfl ?_
  refine jy_iconst (pc' := 1579) (v := 1) F dL_law_1578 (by decide) rfl ?_
  refine jy_iadd (pc' := 1580) (v := 1) F dL_law_1579 (by decide) rfl ?_
  refine jy_sld (pc' := 1581) (v := (sq 1)) F hX hbl hbA dL_law_1580 (vp_in_nI (n := 1) (by decide) (by decide)) rfl rfl ?_
  refine jy_aload_n (pc' := 1582) F 3 dL_law_1581 rfl rfl rfl ?_
  refine jy_iload_n (pc' := 1583) F 0 dL_law_1582 rfl rfl rfl ?_
  refine jy_iconst (pc' := 1584) (v := 2) F dL_law_1583 (by decide) rfl ?_
  refine jy_iadd (pc' := 1585) (v := 2) F dL_law_1584 (by decide) rfl ?_
  refine jy_sld (pc' := 1586) (v := (sq 2)) F hX hbl hbA dL_law_1585 (vp_in_nI (n := 2) (by decide) (by decide)) rfl rfl ?_
  refine jy_aload_n (pc' := 1587) F 3 dL_law_1586 rfl rfl rfl ?_
  refine jy_iload_n (pc' := 1588) F 0 dL_law_1587 rfl rfl rfl ?_
  refine jy_iconst (pc' := 1589) (v := 3) F dL_law_1588 (by decide) rfl ?_
  refine jy_iadd (pc' := 1590) (v := 3) F dL_law_1589 (by decide) rfl ?_
  refine jy_sld (pc' := 1591) (v := (sq 3)) F hX hbl hbA dL_law_1590 (vp_in_nI (n := 3) (by decide) (by decide)) rfl rfl ?_
  refine jy_calli (pc' := 1594) (cells' := 194) (slots' := 18023) (wr := [(m0, .inr (11, [.ref b1, .ref b2, .int 0, .long 0, .long 1, .ref b3, .ref b4, .ref b5, .ref b6, .ref b7, .int 0, .int 0, .int 0, .int 0, .int 0, .int 0, .int (-1), .int (-1), .int 0, .int 0, .ref w0, .ref w1, .ref w2, .ref w3, .ref w4, .ref w5, .ref w6, .ref w7, .ref w8, .ref w9, .int 0, .int 0, .int 0, .ref w10, .ref w11, .int 0, .ref w12, .ref w13, .ref w14, .ref w15, .ref w16, .ref w17, .ref w18, .ref w19, .ref w20, .int 0, .ref w21, .ref w22, .int 0, .int 0, .int 0])), (b1, .inl (k.2.1, 1360, .inl fa))]) hA [0, 1] [2, 3] rfl rfl (by decide) (by decide) (jy_runV (As := [.int (sq 1), .int (sq 2), .int (sq 3)]) (b := h0) (q0 := 0) (ci := 10) (C := RX11) (T := TX11) (N := 15) (st := []) F hN (fun sz => c_X11_partingAt l D k h0 a2 a4 a5 a6 a7 a8 a9 a10 t0 s0 s1 s2 s3 (sq 1) (sq 2) (sq 3) sz ) (jy_cV F gl_c_X11_partingAt rfl hdX11_partingAt (lm_171) (lm_1442) (lm_1443) (lm_1444) rfl rfl ⟨by decide, by decide⟩) rfl rfl [0, 1] rfl (by decide) rfl rfl (Nat.le_of_ble_eq_true rfl) dL_law_1591 ⟨by decide, by decide⟩) rfl rfl rfl (fun r_3 u_1 e_2 => ?_)
  subst e_2
  refine jy_aload_n (pc' := 1595) F 1 dL_law_1594 rfl rfl rfl ?_
  refine jy_aload_n (pc' := 1596) F 3 dL_law_1595 rfl rfl rfl ?_
  refine jy_iload_n (pc' := 1597) F 0 dL_law_1596 rfl rfl rfl ?_
  refine jy_iconst (pc' := 1598) (v := 1) F dL_law_1597 (by decide) rfl ?_
  refine jy_iadd (pc' := 1599) (v := 1) F dL_law_1598 (by decide) rfl ?_
  refine jy_sld (pc' := 1600) (v := (sq 1)) F hX hbl hbA dL_law_1599 (vp_in_nI (n := 1) (by decide) (by decide)) rfl rfl ?_
  refine jy_aload_n (pc' := 1601) F 3 dL_law_1600 rfl rfl rfl ?_
  refine jy_iload_n (pc' := 1602) F 0 dL_law_1601 rfl rfl rfl ?_
  refine jy_iconst (pc' := 1603) (v := 2) F dL_law_1602 (by decide) rfl ?_
  refine jy_iadd (pc' := 1604) (v := 2) F dL_law_1603 (by decide) rfl ?_
  refine jy_sld (pc' := 1605) (v := (sq 2)) F hX hbl hbA dL_law_1604 (vp_in_nI (n := 2) (by decide) (by decide)) rfl rfl ?_
  refine jy_aload_n (pc' := 1606) F 3 dL_law_1605 rfl rfl rfl ?_
  refine jy_iload_n (pc' := 1607) F 0 dL_law_1606 rfl rfl rfl ?_
  refine jy_iconst (pc' := 1608) (v := 3) F dL_law_1607 (by decide) rfl ?_
  refine jy_iadd (pc' := 1609) (v := 3) F dL_law_1608 (by decide) rfl ?_
  refine jy_sld (pc' := 1610) (v := (sq 3)) F hX hbl hbA dL_law_1609 (vp_in_nI (n := 3) (by decide) (by decide)) rfl rfl ?_
  refine jy_calli (pc' := 1613) (cells' := 194) (slots' := 18023) (wr := []) hA [0, 1] [] rfl rfl (by decide) (by decide) (jy_runV (As := [.int (sq 1), .int (sq 2), .int (sq 3)]) (b := m0) (q0 := 0) (ci := 11) (C := RX12) (T := TX12) (N := 51) (st := [.int (-1)]) F hN (fun sz => c_X12_partingAt l D k m0 b1 b2 b3 b4 b5 b6 b7 w0 w1 w2 w3 w4 w5 w6 w7 w8 w9 w10 w11 w12 w13 w14 w15 w16 w17 w18 w19 w20 w21 w22 fa (sq 1) (sq 2) (sq 3) sz (ha)) (jy_cV F gl_c_X12_partingAt rfl hdX12_partingAt (lm_185) (lm_2268) (lm_2269) (lm_2270) rfl rfl ⟨by decide, by decide⟩) rfl rfl [0, 1] rfl (by decide) rfl rfl (Nat.le_of_ble_eq_true rfl) dL_law_1610 ⟨by decide, by decide⟩) rfl rfl rfl (fun r_6 u_4 e_5 => ?_)
  subst e_5
  refine jy_icmp_eq (pc' := 1616) (tgt := 2053) F dL_law_1613 (by decide) rfl (fun _ => ?_) (fun h => absurd h (by decide))
  refine jy_iinc (pc' := 2056) (v := 6) (lv' := [(3, .int 6), (2, .ref m0), (1, .ref h0), (0, .ref b)]) F 0 dL_law_2053 rfl (by decide) (by decide) rfl rfl ?_
  refine jy_goto (tgt := 18) F dL_law_2056 (by decide) ?_
  refine jy_iload_n (pc' := 19) F 0 dL_law_18 rfl rfl rfl ?_
  refine jy_aload_n (pc' := 20) F 3 dL_law_19 rfl rfl rfl ?_
  refine jy_slen (pc' := 21) (v := 6) F hX hbl hbA dL_law_20 rfl rfl ?_
  refine jy_bipush (pc' := 23) (v := 6) F dL_law_21 (by decide) rfl ?_
  refine jy_isub (pc' := 24) (v := 0) F dL_law_23 (by decide) rfl ?_
  refine jy_icmp_gt (pc' := 27) (tgt := 2059) F dL_law_24 (by decide) rfl (fun _ => ?_) (fun h => absurd h (by decide))
  refine jy_iconst (pc' := 2060) (v := 1) F dL_law_2059 (by decide) rfl ?_
  exact jy_lawret F hr hlocks (by decide) (by decide) dL_law_2060
set_option maxHeartbeats 4000000 in
set_option maxRecDepth 100000 in
theorem lc_missing {p : Program} {e : Env} {s : State} {m : MethodId} {below : List Frame} {meth : Method} {c : Code} (l : Launch) {b : Nat} {sq : Nat → Int32} (C0 : lw_At p s m meth c b 6 sq) (D : va_G) (k : jK) (F : jy_F p m c code 4 s #[Value.ref b] lw_tbl R_law D vwCl (jT k)) (hN : jy_N jW s) (h0 : Nat) (a2 : Nat) (a4 : Nat) (a5 : Nat) (a6 : Nat) (a7 : Nat) (a8 : Nat) (a9 : Nat) (a10 : Nat) (t0 : Nat) (s0 : Nat) (s1 : Nat) (s2 : Nat) (s3 : Nat) (m0 : Nat) (b1 : Nat) (b2 : Nat) (b3 : Nat) (b4 : Nat) (b5 : Nat) (b6 : Nat) (b7 : Nat) (w0 : Nat) (w1 : Nat) (w2 : Nat) (w3 : Nat) (w4 : Nat) (w5 : Nat) (w6 : Nat) (w7 : Nat) (w8 : Nat) (w9 : Nat) (w10 : Nat) (w11 : Nat) (w12 : Nat) (w13 : Nat) (w14 : Nat) (w15 : Nat) (w16 : Nat) (w17 : Nat) (w18 : Nat) (w19 : Nat) (w20 : Nat) (w21 : Nat) (w22 : Nat) (fa : Nat → Int32) (ha : fa 4 = -1 ∧ ∀ j, j ≠ 4 → fa j = 0) : JJ p l e room_1 s m #[Value.ref b] below meth c (lw_Z below #[Value.ref b] s) 4 D vwCl (fun q => s.heap.size ≤ q) (va_S (fun q => s.heap.size ≤ q) s.heap) 194 18023 [(h0, .inr (10, [.int 0, .long 0, .long 1, .ref t0, .ref a2, .ref s0, .ref a4, .int 0, .ref a5, .ref a6, .ref a7, .ref a8, .ref a9, .ref a10, .int 0])), (s0, .inr (4, [.int 0, .int 0, .int 0, .int 0, .ref s1, .ref s2, .ref s3])), (m0, .inr (11, [.ref b1, .ref b2, .int 0, .long 0, .long 1, .ref b3, .ref b4, .ref b5, .ref b6, .ref b7, .int 0, .int 0, .int 0, .int 0, .int 0, .int 0, .int (-1), .int (-1), .int 0, .int 0, .ref w0, .ref w1, .ref w2, .ref w3, .ref w4, .ref w5, .ref w6, .ref w7, .ref w8, .ref w9, .int 0, .int 0, .int 0, .ref w10, .ref w11, .int 0, .ref w12, .ref w13, .ref w14, .ref w15, .ref w16, .ref w17, .ref w18, .ref w19, .ref w20, .int 0, .ref w21, .ref w22, .int 0, .int 0, .int 0])), (b1, .inl (k.2.1, 1360, .inl fa))] 1618 [(3, .int 0), (2, .ref m0), (1, .ref h0), (0, .ref b)] [] := by
  obtain ⟨hx, hb, hr, hml, hown, hts, hX, hbl, hlocks, hgv⟩ := id C0
  have hA : ∀ q : Nat, s.heap.size ≤ q → (fun q : Nat => s.heap.size ≤ q) q := fun _ h => h
  have hbA : ¬ (fun q : Nat => s.heap.size ≤ q) b := Nat.not_le.mpr hbl
  refine jy_aload_n (pc' := 1619) F 2 dL_law_1618 rfl rfl rfl ?_
  refine jy_aload_n (pc' := 1620) F 3 dL_law_1619 rfl rfl rfl ?_
  refine jy_iload_n (pc' := 1621) F 0 dL_law_1620 rfl rfl rfl ?_
  refine jy_iconst (pc' := 1622) (v := 1) F dL_law_1621 (by decide) rfl ?_
  refine jy_iadd (pc' := 1623) (v := 1) F dL_law_1622 (by decide) rfl ?_
  refine jy_sld (pc' := 1624) (v := (sq 1)) F hX hbl hbA dL_law_1623 (vp_in_nI (n := 1) (by decide) (by decide)) rfl rfl ?_
  refine jy_calli (pc' := 1627) (cells' := 194) (slots' := 18023) (wr := [(m0, .inr (11, [.ref b1, .ref b2, .int 0, .long 0, .long 1, .ref b3, .ref b4, .ref b5, .ref b6, .ref b7, .int 0, .int 0, .int 0, .int 0, .int 0, .int 0, .int (-1), .int (-1), .int 0, .int 0, .ref w0, .ref w1, .ref w2, .ref w3, .ref w4, .ref w5, .ref w6, .ref w7, .ref w8, .ref w9, .int 0, .int 0, .int 0, .ref w10, .ref w11, .int 0, .ref w12, .ref w13, .ref w14, .ref w15, .ref w16, .ref w17, .ref w18, .ref w19, .ref w20, .int 0, .ref w21, .ref w22, .int 0, .int 0, .int 0])), (b1, .inl (k.2.1, 1360, .inl fa))]) hA [0, 1] [2, 3] rfl rfl (by decide) (by decide) (jy_runV (As := [.int (sq 1)]) (b := h0) (q0 := 0) (ci := 10) (C := RX11) (T := TX11) (N := 15) (st := []) F hN (fun sz => c_X11_missing l D k h0 a2 a4 a5 a6 a7 a8 a9 a10 t0 s0 s1 s2 s3 (sq 1) sz ) (jy_cV F gl_c_X11_missing rfl hdX11_missing (lm_171) (lm_1446) (lm_1447) (lm_1448) rfl rfl ⟨by decide, by decide⟩) rfl rfl [0, 1] rfl (by decide) rfl rfl (Nat.le_of_ble_eq_true rfl) dL_law_1624 ⟨by decide, by decide⟩) rfl rfl rfl (fun r_3 u_1 e_2 => ?_)
  subst e_2
  refine jy_aload_n (pc' := 1628) F 1 dL_law_1627 rfl rfl rfl ?_
  refine jy_aload_n (pc' := 1629) F 3 dL_law_1628 rfl rfl rfl ?_
  refine jy_iload_n (pc' := 1630) F 0 dL_law_1629 rfl rfl rfl ?_
  refine jy_iconst (pc' := 1631) (v := 1) F dL_law_1630 (by decide) rfl ?_
  refine jy_iadd (pc' := 1632) (v := 1) F dL_law_1631 (by decide) rfl ?_
  refine jy_sld (pc' := 1633) (v := (sq 1)) F hX hbl hbA dL_law_1632 (vp_in_nI (n := 1) (by decide) (by decide)) rfl rfl ?_
  refine jy_calli (pc' := 1636) (cells' := 194) (slots' := 18023) (wr := []) hA [0, 1] [] rfl rfl (by decide) (by decide) (jy_runV (As := [.int (sq 1)]) (b := m0) (q0 := 0) (ci := 11) (C := RX12) (T := TX12) (N := 51) (st := [.int (-1)]) F hN (fun sz => c_X12_missing l D k m0 b1 b2 b3 b4 b5 b6 b7 w0 w1 w2 w3 w4 w5 w6 w7 w8 w9 w10 w11 w12 w13 w14 w15 w16 w17 w18 w19 w20 w21 w22 fa (sq 1) sz (ha)) (jy_cV F gl_c_X12_missing rfl hdX12_missing (lm_185) (lm_2272) (lm_2273) (lm_2274) rfl rfl ⟨by decide, by decide⟩) rfl rfl [0, 1] rfl (by decide) rfl rfl (Nat.le_of_ble_eq_true rfl) dL_law_1633 ⟨by decide, by decide⟩) rfl rfl rfl (fun r_6 u_4 e_5 => ?_)
  subst e_5
  refine jy_icmp_eq (pc' := 1639) (tgt := 2053) F dL_law_1636 (by decide) rfl (fun _ => ?_) (fun h => absurd h (by decide))
  refine jy_iinc (pc' := 2056) (v := 6) (lv' := [(3, .int 6), (2, .ref m0), (1, .ref h0), (0, .ref b)]) F 0 dL_law_2053 rfl (by decide) (by decide) rfl rfl ?_
  refine jy_goto (tgt := 18) F dL_law_2056 (by decide) ?_
  refine jy_iload_n (pc' := 19) F 0 dL_law_18 rfl rfl rfl ?_
  refine jy_aload_n (pc' := 20) F 3 dL_law_19 rfl rfl rfl ?_
  refine jy_slen (pc' := 21) (v := 6) F hX hbl hbA dL_law_20 rfl rfl ?_
  refine jy_bipush (pc' := 23) (v := 6) F dL_law_21 (by decide) rfl ?_
  refine jy_isub (pc' := 24) (v := 0) F dL_law_23 (by decide) rfl ?_
  refine jy_icmp_gt (pc' := 27) (tgt := 2059) F dL_law_24 (by decide) rfl (fun _ => ?_) (fun h => absurd h (by decide))
  refine jy_iconst (pc' := 2060) (v := 1) F dL_law_2059 (by decide) rfl ?_
  exact jy_lawret F hr hlocks (by decide) (by decide) dL_law_2060
set_option maxHeartbeats 4000000 in
set_option maxRecDepth 100000 in
theorem lc_missingAt {p : Program} {e : Env} {s : State} {m : MethodId} {below : List Frame} {meth : Method} {c : Code} (l : Launch) {b : Nat} {sq : Nat → Int32} (C0 : lw_At p s m meth c b 6 sq) (D : va_G) (k : jK) (F : jy_F p m c code 4 s #[Value.ref b] lw_tbl R_law D vwCl (jT k)) (hN : jy_N jW s) (h0 : Nat) (a2 : Nat) (a4 : Nat) (a5 : Nat) (a6 : Nat) (a7 : Nat) (a8 : Nat) (a9 : Nat) (a10 : Nat) (t0 : Nat) (s0 : Nat) (s1 : Nat) (s2 : Nat) (s3 : Nat) (m0 : Nat) (b1 : Nat) (b2 : Nat) (b3 : Nat) (b4 : Nat) (b5 : Nat) (b6 : Nat) (b7 : Nat) (w0 : Nat) (w1 : Nat) (w2 : Nat) (w3 : Nat) (w4 : Nat) (w5 : Nat) (w6 : Nat) (w7 : Nat) (w8 : Nat) (w9 : Nat) (w10 : Nat) (w11 : Nat) (w12 : Nat) (w13 : Nat) (w14 : Nat) (w15 : Nat) (w16 : Nat) (w17 : Nat) (w18 : Nat) (w19 : Nat) (w20 : Nat) (w21 : Nat) (w22 : Nat) (fa : Nat → Int32) (ha : fa 4 = -1 ∧ ∀ j, j ≠ 4 → fa j = 0) : JJ p l e room_1 s m #[Value.ref b] below meth c (lw_Z below #[Value.ref b] s) 4 D vwCl (fun q => s.heap.size ≤ q) (va_S (fun q => s.heap.size ≤ q) s.heap) 194 18023 [(h0, .inr (10, [.int 0, .long 0, .long 1, .ref t0, .ref a2, .ref s0, .ref a4, .int 0, .ref a5, .ref a6, .ref a7, .ref a8, .ref a9, .ref a10, .int 0])), (s0, .inr (4, [.int 0, .int 0, .int 0, .int 0, .ref s1, .ref s2, .ref s3])), (m0, .inr (11, [.ref b1, .ref b2, .int 0, .long 0, .long 1, .ref b3, .ref b4, .ref b5, .ref b6, .ref b7, .int 0, .int 0, .int 0, .int 0, .int 0, .int 0, .int (-1), .int (-1), .int 0, .int 0, .ref w0, .ref w1, .ref w2, .ref w3, .ref w4, .ref w5, .ref w6, .ref w7, .ref w8, .ref w9, .int 0, .int 0, .int 0, .ref w10, .ref w11, .int 0, .ref w12, .ref w13, .ref w14, .ref w15, .ref w16, .ref w17, .ref w18, .ref w19, .ref w20, .int 0, .ref w21, .ref w22, .int 0, .int 0, .int 0])), (b1, .inl (k.2.1, 1360, .inl fa))] 1641 [(3, .int 0), (2, .ref m0), (1, .ref h0), (0, .ref b)] [] := by
  obtain ⟨hx, hb, hr, hml, hown, hts, hX, hbl, hlocks, hgv⟩ := id C0
  have hA : ∀ q : Nat, s.heap.size ≤ q → (fun q : Nat => s.heap.size ≤ q) q := fun _ h => h
  have hbA : ¬ (fun q : Nat => s.heap.size ≤ q) b := Nat.not_le.mpr hbl
  refine jy_aload_n (pc' := 1642) F 2 dL_law_1641 rfl rfl rfl ?_
  refine jy_aload_n (pc' := 1643) F 3 dL_law_1642 rfl rfl rfl ?_
  refine jy_iload_n (pc' := 1644) F 0 dL_law_1643 rfl rfl rfl ?_
  refine jy_iconst (pc' := 1645) (v := 1) F dL_law_1644 (by decide) rfl ?_
  refine jy_iadd (pc' := 1646) (v := 1) F dL_law_1645 (by decide) rfl ?_
  refine jy_sld (pc' := 1647) (v := (sq 1)) F hX hbl hbA dL_law_1646 (vp_in_nI (n := 1) (by decide) (by decide)) rfl rfl ?_
  refine jy_aload_n (pc' := 1648) F 3 dL_law_1647 rfl rfl rfl ?_
  refine jy_iload_n (pc' := 1649) F 0 dL_law_1648 rfl rfl rfl ?_
  refine jy_iconst (pc' := 1650) (v := 2) F dL_law_1649 (by decide) rfl ?_
  refine jy_iadd (pc' := 1651) (v := 2) F dL_law_1650 (by decide) rfl ?_
  refine jy_sld (pc' := 1652) (v := (sq 2)) F hX hbl hbA dL_law_1651 (vp_in_nI (n := 2) (by decide) (by decide)) rfl rfl ?_
  refine jy_calli (pc' := 1655) (cells' := 194) (slots' := 18023) (wr := [(m0, .inr (11, [.ref b1, .ref b2, .int 0, .long 0, .long 1, .ref b3, .ref b4, .ref b5, .ref b6, .ref b7, .int 0, .int 0, .int 0, .int 0, .int 0, .int 0, .int (-1), .int (-1), .int 0, .int 0, .ref w0, .ref w1, .ref w2, .ref w3, .ref w4, .ref w5, .ref w6, .ref w7, .ref w8, .ref w9, .int 0, .int 0, .int 0, .ref w10, .ref w11, .int 0, .ref w12, .ref w13, .ref w14, .ref w15, .ref w16, .ref w17, .ref w18, .ref w19, .ref w20, .int 0, .ref w21, .ref w22, .int 0, .int 0, .int 0])), (b1, .inl (k.2.1, 1360, .inl fa))]) hA [0, 1] [2, 3] rfl rfl (by decide) (by decide) (jy_runV (As := [.int (sq 1), .int (sq 2)]) (b := h0) (q0 := 0) (ci := 10) (C := RX11) (T := TX11) (N := 15) (st := []) F hN (fun sz => c_X11_missingAt l D k h0 a2 a4 a5 a6 a7 a8 a9 a10 t0 s0 s1 s2 s3 (sq 1) (sq 2) sz ) (jy_cV F gl_c_X11_missingAt rfl hdX11_missingAt (lm_171) (lm_1450) (lm_1451) (lm_1452) rfl rfl ⟨by decide, by decide⟩) rfl rfl [0, 1] rfl (by decide) rfl rfl (Nat.le_of_ble_eq_true rfl) dL_law_1652 ⟨by decide, by decide⟩) rfl rfl rfl (fun r_3 u_1 e_2 => ?_)
  subst e_2
  refine jy_aload_n (pc' := 1656) F 1 dL_law_1655 rfl rfl rfl ?_
  refine jy_aload_n (pc' := 1657) F 3 dL_law_1656 rfl rfl rfl ?_
  refine jy_iload_n (pc' := 1658) F 0 dL_law_1657 rfl rfl rfl ?_
  refine jy_iconst (pc' := 1659) (v := 1) F dL_law_1658 (by decide) rfl ?_
  refine jy_iadd (pc' := 1660) (v := 1) F dL_law_1659 (by decide) rfl ?_
  refine jy_sld (pc' := 1661) (v := (sq 1)) F hX hbl hbA dL_law_1660 (vp_in_nI (n := 1) (by decide) (by decide)) rfl rfl ?_
  refine jy_aload_n (pc' := 1662) F 3 dL_law_1661 rfl rfl rfl ?_
  refine jy_iload_n (pc' := 1663) F 0 dL_law_1662 rfl rfl rfl ?_
  refine jy_iconst (pc' := 1664) (v := 2) F dL_law_1663 (by decide) rfl ?_
  refine jy_iadd (pc' := 1665) (v := 2) F dL_law_1664 (by decide) rfl ?_
  refine jy_sld (pc' := 1666) (v := (sq 2)) F hX hbl hbA dL_law_1665 (vp_in_nI (n := 2) (by decide) (by decide)) rfl rfl ?_
  refine jy_calli (pc' := 1669) (cells' := 194) (slots' := 18023) (wr := []) hA [0, 1] [] rfl rfl (by decide) (by decide) (jy_runV (As := [.int (sq 1), .int (sq 2)]) (b := m0) (q0 := 0) (ci := 11) (C := RX12) (T := TX12) (N := 51) (st := [.int (-1)]) F hN (fun sz => c_X12_missingAt l D k m0 b1 b2 b3 b4 b5 b6 b7 w0 w1 w2 w3 w4 w5 w6 w7 w8 w9 w10 w11 w12 w13 w14 w15 w16 w17 w18 w19 w20 w21 w22 fa (sq 1) (sq 2) sz (ha)) (jy_cV F gl_c_X12_missingAt rfl hdX12_missingAt (lm_185) (lm_2276) (lm_2277) (lm_2278) rfl rfl ⟨by decide, by decide⟩) rfl rfl [0, 1] rfl (by decide) rfl rfl (Nat.le_of_ble_eq_true rfl) dL_law_1666 ⟨by decide, by decide⟩) rfl rfl rfl (fun r_6 u_4 e_5 => ?_)
  subst e_5
  refine jy_icmp_eq (pc' := 1672) (tgt := 2053) F dL_law_1669 (by decide) rfl (fun _ => ?_) (fun h => absurd h (by decide))
  refine jy_iinc (pc' := 2056) (v := 6) (lv' := [(3, .int 6), (2, .ref m0), (1, .ref h0), (0, .ref b)]) F 0 dL_law_2053 rfl (by decide) (by decide) rfl rfl ?_
  refine jy_goto (tgt := 18) F dL_law_2056 (by decide) ?_
  refine jy_iload_n (pc' := 19) F 0 dL_law_18 rfl rfl rfl ?_
  refine jy_aload_n (pc' := 20) F 3 dL_law_19 rfl rfl rfl ?_
  refine jy_slen (pc' := 21) (v := 6) F hX hbl hbA dL_law_20 rfl rfl ?_
  refine jy_bipush (pc' := 23) (v := 6) F dL_law_21 (by decide) rfl ?_
  refine jy_isub (pc' := 24) (v := 0) F dL_law_23 (by decide) rfl ?_
  refine jy_icmp_gt (pc' := 27) (tgt := 2059) F dL_law_24 (by decide) rfl (fun _ => ?_) (fun h => absurd h (by decide))
  refine jy_iconst (pc' := 2060) (v := 1) F dL_law_2059 (by decide) rfl ?_
  exact jy_lawret F hr hlocks (by decide) (by decide) dL_law_2060
set_option maxHeartbeats 4000000 in
set_option maxRecDepth 100000 in
theorem lc_includes {p : Program} {e : Env} {s : State} {m : MethodId} {below : List Frame} {meth : Method} {c : Code} (l : Launch) {b : Nat} {sq : Nat → Int32} (C0 : lw_At p s m meth c b 6 sq) (D : va_G) (k : jK) (F : jy_F p m c code 4 s #[Value.ref b] lw_tbl R_law D vwCl (jT k)) (hN : jy_N jW s) (h0 : Nat) (a2 : Nat) (a4 : Nat) (a5 : Nat) (a6 : Nat) (a7 : Nat) (a8 : Nat) (a9 : Nat) (a10 : Nat) (t0 : Nat) (s0 : Nat) (s1 : Nat) (s2 : Nat) (s3 : Nat) (m0 : Nat) (b1 : Nat) (b2 : Nat) (b3 : Nat) (b4 : Nat) (b5 : Nat) (b6 : Nat) (b7 : Nat) (w0 : Nat) (w1 : Nat) (w2 : Nat) (w3 : Nat) (w4 : Nat) (w5 : Nat) (w6 : Nat) (w7 : Nat) (w8 : Nat) (w9 : Nat) (w10 : Nat) (w11 : Nat) (w12 : Nat) (w13 : Nat) (w14 : Nat) (w15 : Nat) (w16 : Nat) (w17 : Nat) (w18 : Nat) (w19 : Nat) (w20 : Nat) (w21 : Nat) (w22 : Nat) (fa : Nat → Int32) (ha : fa 4 = -1 ∧ ∀ j, j ≠ 4 → fa j = 0) : JJ p l e room_1 s m #[Value.ref b] below meth c (lw_Z below #[Value.ref b] s) 4 D vwCl (fun q => s.heap.size ≤ q) (va_S (fun q => s.heap.size ≤ q) s.heap) 194 18023 [(h0, .inr (10, [.int 0, .long 0, .long 1, .ref t0, .ref a2, .ref s0, .ref a4, .int 0, .ref a5, .ref a6, .ref a7, .ref a8, .ref a9, .ref a10, .int 0])), (s0, .inr (4, [.int 0, .int 0, .int 0, .int 0, .ref s1, .ref s2, .ref s3])), (m0, .inr (11, [.ref b1, .ref b2, .int 0, .long 0, .long 1, .ref b3, .ref b4, .ref b5, .ref b6, .ref b7, .int 0, .int 0, .int 0, .int 0, .int 0, .int 0, .int (-1), .int (-1), .int 0, .int 0, .ref w0, .ref w1, .ref w2, .ref w3, .ref w4, .ref w5, .ref w6, .ref w7, .ref w8, .ref w9, .int 0, .int 0, .int 0, .ref w10, .ref w11, .int 0, .ref w12, .ref w13, .ref w14, .ref w15, .ref w16, .ref w17, .ref w18, .ref w19, .ref w20, .int 0, .ref w21, .ref w22, .int 0, .int 0, .int 0])), (b1, .inl (k.2.1, 1360, .inl fa))] 1674 [(3, .int 0), (2, .ref m0), (1, .ref h0), (0, .ref b)] [] := by
  obtain ⟨hx, hb, hr, hml, hown, hts, hX, hbl, hlocks, hgv⟩ := id C0
  have hA : ∀ q : Nat, s.heap.size ≤ q → (fun q : Nat => s.heap.size ≤ q) q := fun _ h => h
  have hbA : ¬ (fun q : Nat => s.heap.size ≤ q) b := Nat.not_le.mpr hbl
  refine jy_aload_n (pc' := 1675) F 2 dL_law_1674 rfl rfl rfl ?_
  refine jy_aload_n (pc' := 1676) F 3 dL_law_1675 rfl rfl rfl ?_
  refine jy_iload_n (pc' := 1677) F 0 dL_law_1676 rfl rfl rfl ?_
  refine jy_iconst (pc' := 1678) (v := 1) F dL_law_1677 (by decide) rfl ?_
  refine jy_iadd (pc' := 1679) (v := 1) F dL_law_1678 (by decide) rfl ?_
  refine jy_sld (pc' := 1680) (v := (sq 1)) F hX hbl hbA dL_law_1679 (vp_in_nI (n := 1) (by decide) (by decide)) rfl rfl ?_
  refine jy_aload_n (pc' := 1681) F 3 dL_law_1680 rfl rfl rfl ?_
  refine jy_iload_n (pc' := 1682) F 0 dL_law_1681 rfl rfl rfl ?_
  refine jy_iconst (pc' := 1683) (v := 2) F dL_law_1682 (by decide) rfl ?_
  refine jy_iadd (pc' := 1684) (v := 2) F dL_law_1683 (by decide) rfl ?_
  refine jy_sld (pc' := 1685) (v := (sq 2)) F hX hbl hbA dL_law_1684 (vp_in_nI (n := 2) (by decide) (by decide)) rfl rfl ?_
  refine jy_calli (pc' := 1688) (cells' := 194) (slots' := 18023) (wr := [(m0, .inr (11, [.ref b1, .ref b2, .int 0, .long 0, .long 1, .ref b3, .ref b4, .ref b5, .ref b6, .ref b7, .int 0, .int 0, .int 0, .int 0, .int 0, .int 0, .int (-1), .int (-1), .int 0, .int 0, .ref w0, .ref w1, .ref w2, .ref w3, .ref w4, .ref w5, .ref w6, .ref w7, .ref w8, .ref w9, .int 0, .int 0, .int 0, .ref w10, .ref w11, .int 0, .ref w12, .ref w13, .ref w14, .ref w15, .ref w16, .ref w17, .ref w18, .ref w19, .ref w20, .int 0, .ref w21, .ref w22, .int 0, .int 0, .int 0])), (b1, .inl (k.2.1, 1360, .inl fa))]) hA [0, 1] [2, 3] rfl rfl (by decide) (by decide) (jy_runV (As := [.int (sq 1), .int (sq 2)]) (b := h0) (q0 := 0) (ci := 10) (C := RX11) (T := TX11) (N := 15) (st := []) F hN (fun sz => c_X11_includes l D k h0 a2 a4 a5 a6 a7 a8 a9 a10 t0 s0 s1 s2 s3 (sq 1) (sq 2) sz ) (jy_cV F gl_c_X11_includes rfl hdX11_includes (lm_171) (lm_1454) (lm_1455) (lm_1456) rfl rfl ⟨by decide, by decide⟩) rfl rfl [0, 1] rfl (by decide) rfl rfl (Nat.le_of_ble_eq_true rfl) dL_law_1685 ⟨by decide, by decide⟩) rfl rfl rfl (fun r_3 u_1 e_2 => ?_)
  subst e_2
  refine jy_aload_n (pc' := 1689) F 1 dL_law_1688 rfl rfl rfl ?_
  refine jy_aload_n (pc' := 1690) F 3 dL_law_1689 rfl rfl rfl ?_
  refine jy_iload_n (pc' := 1691) F 0 dL_law_1690 rfl rfl rfl ?_
  refine jy_iconst (pc' := 1692) (v := 1) F dL_law_1691 (by decide) rfl ?_
  refine jy_iadd (pc' := 1693) (v := 1) F dL_law_1692 (by decide) rfl ?_
  refine jy_sld (pc' := 1694) (v := (sq 1)) F hX hbl hbA dL_law_1693 (vp_in_nI (n := 1) (by decide) (by decide)) rfl rfl ?_
  refine jy_aload_n (pc' := 1695) F 3 dL_law_1694 rfl rfl rfl ?_
  refine jy_iload_n (pc' := 1696) F 0 dL_law_1695 rfl rfl rfl ?_
  refine jy_iconst (pc' := 1697) (v := 2) F dL_law_1696 (by decide) rfl ?_
  refine jy_iadd (pc' := 1698) (v := 2) F dL_law_1697 (by decide) rfl ?_
  refine jy_sld (pc' := 1699) (v := (sq 2)) F hX hbl hbA dL_law_1698 (vp_in_nI (n := 2) (by decide) (by decide)) rfl rfl ?_
  refine jy_calli (pc' := 1702) (cells' := 194) (slots' := 18023) (wr := []) hA [0, 1] [] rfl rfl (by decide) (by decide) (jy_runV (As := [.int (sq 1), .int (sq 2)]) (b := m0) (q0 := 0) (ci := 11) (C := RX12) (T := TX12) (N := 51) (st := [.int (-1)]) F hN (fun sz => c_X12_includes l D k m0 b1 b2 b3 b4 b5 b6 b7 w0 w1 w2 w3 w4 w5 w6 w7 w8 w9 w10 w11 w12 w13 w14 w15 w16 w17 w18 w19 w20 w21 w22 fa (sq 1) (sq 2) sz (ha)) (jy_cV F gl_c_X12_includes rfl hdX12_includes (lm_185) (lm_2280) (lm_2281) (lm_2282) rfl rfl ⟨by decide, by decide⟩) rfl rfl [0, 1] rfl (by decide) rfl rfl (Nat.le_of_ble_eq_true rfl) dL_law_1699 ⟨by decide, by decide⟩) rfl rfl rfl (fun r_6 u_4 e_5 => ?_)
  subst e_5
  refine jy_icmp_eq (pc' := 1705) (tgt := 2053) F dL_law_1702 (by decide) rfl (fun _ => ?_) (fun h => absurd h (by decide))
  refine jy_iinc (pc' := 2056) (v := 6) (lv' := [(3, .int 6), (2, .ref m0), (1, .ref h0), (0, .ref b)]) F 0 dL_law_2053 rfl (by decide) (by decide) rfl rfl ?_
  refine jy_goto (tgt := 18) F dL_law_2056 (by decide) ?_
  refine jy_iload_n (pc' := 19) F 0 dL_law_18 rfl rfl rfl ?_
  refine jy_aload_n (pc' := 20) F 3 dL_law_19 rfl rfl rfl ?_
  refine jy_slen (pc' := 21) (v := 6) F hX hbl hbA dL_law_20 rfl rfl ?_
  refine jy_bipush (pc' := 23) (v := 6) F dL_law_21 (by decide) rfl ?_
  refine jy_isub (pc' := 24) (v := 0) F dL_law_23 (by decide) rfl ?_
  refine jy_icmp_gt (pc' := 27) (tgt := 2059) F dL_law_24 (by decide) rfl (fun _ => ?_) (fun h => absurd h (by decide))
  refine jy_iconst (pc' := 2060) (v := 1) F dL_law_2059 (by decide) rfl ?_
  exact jy_lawret F hr hlocks (by decide) (by decide) dL_law_2060
set_option maxHeartbeats 4000000 in
set_option maxRecDepth 100000 in
theorem lc_equal {p : Program} {e : Env} {s : State} {m : MethodId} {below : List Frame} {meth : Method} {c : Code} (l : Launch) {b : Nat} {sq : Nat → Int32} (C0 : lw_At p s m meth c b 6 sq) (D : va_G) (k : jK) (F : jy_F p m c code 4 s #[Value.ref b] lw_tbl R_law D vwCl (jT k)) (hN : jy_N jW s) (h0 : Nat) (a2 : Nat) (a4 : Nat) (a5 : Nat) (a6 : Nat) (a7 : Nat) (a8 : Nat) (a9 : Nat) (a10 : Nat) (t0 : Nat) (s0 : Nat) (s1 : Nat) (s2 : Nat) (s3 : Nat) (m0 : Nat) (b1 : Nat) (b2 : Nat) (b3 : Nat) (b4 : Nat) (b5 : Nat) (b6 : Nat) (b7 : Nat) (w0 : Nat) (w1 : Nat) (w2 : Nat) (w3 : Nat) (w4 : Nat) (w5 : Nat) (w6 : Nat) (w7 : Nat) (w8 : Nat) (w9 : Nat) (w10 : Nat) (w11 : Nat) (w12 : Nat) (w13 : Nat) (w14 : Nat) (w15 : Nat) (w16 : Nat) (w17 : Nat) (w18 : Nat) (w19 : Nat) (w20 : Nat) (w21 : Nat) (w22 : Nat) (fa : Nat → Int32) (ha : fa 4 = -1 ∧ ∀ j, j ≠ 4 → fa j = 0) : JJ p l e room_1 s m #[Value.ref b] below meth c (lw_Z below #[Value.ref b] s) 4 D vwCl (fun q => s.heap.size ≤ q) (va_S (fun q => s.heap.size ≤ q) s.heap) 194 18023 [(h0, .inr (10, [.int 0, .long 0, .long 1, .ref t0, .ref a2, .ref s0, .ref a4, .int 0, .ref a5, .ref a6, .ref a7, .ref a8, .ref a9, .ref a10, .int 0])), (s0, .inr (4, [.int 0, .int 0, .int 0, .int 0, .ref s1, .ref s2, .ref s3])), (m0, .inr (11, [.ref b1, .ref b2, .int 0, .long 0, .long 1, .ref b3, .ref b4, .ref b5, .ref b6, .ref b7, .int 0, .int 0, .int 0, .int 0, .int 0, .int 0, .int (-1), .int (-1), .int 0, .int 0, .ref w0, .ref w1, .ref w2, .ref w3, .ref w4, .ref w5, .ref w6, .ref w7, .ref w8, .ref w9, .int 0, .int 0, .int 0, .ref w10, .ref w11, .int 0, .ref w12, .ref w13, .ref w14, .ref w15, .ref w16, .ref w17, .ref w18, .ref w19, .ref w20, .int 0, .ref w21, .ref w22, .int 0, .int 0, .int 0])), (b1, .inl (k.2.1, 1360, .inl fa))] 1707 [(3, .int 0), (2, .ref m0), (1, .ref h0), (0, .ref b)] [] := by
  obtain ⟨hx, hb, hr, hml, hown, hts, hX, hbl, hlocks, hgv⟩ := id C0
  have hA : ∀ q : Nat, s.heap.size ≤ q → (fun q : Nat => s.heap.size ≤ q) q := fun _ h => h
  have hbA : ¬ (fun q : Nat => s.heap.size ≤ q) b := Nat.not_le.mpr hbl
  refine jy_aload_n (pc' := 1708) F 2 dL_law_1707 rfl rfl rfl ?_
  refine jy_aload_n (pc' := 1709) F 3 dL_law_1708 rfl rfl rfl ?_
  refine jy_iload_n (pc' := 1710) F 0 dL_law_1709 rfl rfl rfl ?_
  refine jy_iconst (pc' := 1711) (v := 1) F dL_law_1710 (by decide) rfl ?_
  refine jy_iadd (pc' := 1712) (v := 1) F dL_law_1711 (by decide) rfl ?_
  refine jy_sld (pc' := 1713) (v := (sq 1)) F hX hbl hbA dL_law_1712 (vp_in_nI (n := 1) (by decide) (by decide)) rfl rfl ?_
  refine jy_aload_n (pc' := 1714) F 3 dL_law_1713 rfl rfl rfl ?_
  refine jy_iload_n (pc' := 1715) F 0 dL_law_1714 rfl rfl rfl ?_
  refine jy_iconst (pc' := 1716) (v := 2) F dL_law_1715 (by decide) rfl ?_
  refine jy_iadd (pc' := 1717) (v := 2) F dL_law_1716 (by decide) rfl ?_
  refine jy_sld (pc' := 1718) (v := (sq 2)) F hX hbl hbA dL_law_1717 (vp_in_nI (n := 2) (by decide) (by decide)) rfl rfl ?_
  refine jy_calli (pc' := 1721) (cells' := 194) (slots' := 18023) (wr := [(m0, .inr (11, [.ref b1, .ref b2, .int 0, .long 0, .long 1, .ref b3, .ref b4, .ref b5, .ref b6, .ref b7, .int 0, .int 0, .int 0, .int 0, .int 0, .int 0, .int (-1), .int (-1), .int 0, .int 0, .ref w0, .ref w1, .ref w2, .ref w3, .ref w4, .ref w5, .ref w6, .ref w7, .ref w8, .ref w9, .int 0, .int 0, .int 0, .ref w10, .ref w11, .int 0, .ref w12, .ref w13, .ref w14, .ref w15, .ref w16, .ref w17, .ref w18, .ref w19, .ref w20, .int 0, .ref w21, .ref w22, .int 0, .int 0, .int 0])), (b1, .inl (k.2.1, 1360, .inl fa))]) hA [0, 1] [2, 3] rfl rfl (by decide) (by decide) (jy_runV (As := [.int (sq 1), .int (sq 2)]) (b := h0) (q0 := 0) (ci := 10) (C := RX11) (T := TX11) (N := 15) (st := []) F hN (fun sz => c_X11_equal l D k h0 a2 a4 a5 a6 a7 a8 a9 a10 t0 s0 s1 s2 s3 (sq 1) (sq 2) sz ) (jy_cV F gl_c_X11_equal rfl hdX11_equal (lm_171) (lm_1458) (lm_1459) (lm_1460) rfl rfl ⟨by decide, by decide⟩) rfl rfl [0, 1] rfl (by decide) rfl rfl (Nat.le_of_ble_eq_true rfl) dL_law_1718 ⟨by decide, by decide⟩) rfl rfl rfl (fun r_3 u_1 e_2 => ?_)
  subst e_2
  refine jy_aload_n (pc' := 1722) F 1 dL_law_1721 rfl rfl rfl ?_
  refine jy_aload_n (pc' := 1723) F 3 dL_law_1722 rfl rfl rfl ?_
  refine jy_iload_n (pc' := 1724) F 0 dL_law_1723 rfl rfl rfl ?_
  refine jy_iconst (pc' := 1725) (v := 1) F dL_law_1724 (by decide) rfl ?_
  refine jy_iadd (pc' := 1726) (v := 1) F dL_law_1725 (by decide) rfl ?_
  refine jy_sld (pc' := 1727) (v := (sq 1)) F hX hbl hbA dL_law_1726 (vp_in_nI (n := 1) (by decide) (by decide)) rfl rfl ?_
  refine jy_aload_n (pc' := 1728) F 3 dL_law_1727 rfl rfl rfl ?_
  refine jy_iload_n (pc' := 1729) F 0 dL_law_1728 rfl rfl rfl ?_
  refine jy_iconst (pc' := 1730) (v := 2) F dL_law_1729 (by decide) rfl ?_
  refine jy_iadd (pc' := 1731) (v := 2) F dL_law_1730 (by decide) rfl ?_
  refine jy_sld (pc' := 1732) (v := (sq 2)) F hX hbl hbA dL_law_1731 (vp_in_nI (n := 2) (by decide) (by decide)) rfl rfl ?_
  refine jy_calli (pc' := 1735) (cells' := 194) (slots' := 18023) (wr := []) hA [0, 1] [] rfl rfl (by decide) (by decide) (jy_runV (As := [.int (sq 1), .int (sq 2)]) (b := m0) (q0 := 0) (ci := 11) (C := RX12) (T := TX12) (N := 51) (st := [.int (-1)]) F hN (fun sz => c_X12_equal l D k m0 b1 b2 b3 b4 b5 b6 b7 w0 w1 w2 w3 w4 w5 w6 w7 w8 w9 w10 w11 w12 w13 w14 w15 w16 w17 w18 w19 w20 w21 w22 fa (sq 1) (sq 2) sz (ha)) (jy_cV F gl_c_X12_equal rfl hdX12_equal (lm_185) (lm_2284) (lm_2285) (lm_2286) rfl rfl ⟨by decide, by decide⟩) rfl rfl [0, 1] rfl (by decide) rfl rfl (Nat.le_of_ble_eq_true rfl) dL_law_1732 ⟨by decide, by decide⟩) rfl rfl rfl (fun r_6 u_4 e_5 => ?_)
  subst e_5
  refine jy_icmp_eq (pc' := 1738) (tgt := 2053) F dL_law_1735 (by decide) rfl (fun _ => ?_) (fun h => absurd h (by decide))
  refine jy_iinc (pc' := 2056) (v := 6) (lv' := [(3, .int 6), (2, .ref m0), (1, .ref h0), (0, .ref b)]) F 0 dL_law_2053 rfl (by decide) (by decide) rfl rfl ?_
  refine jy_goto (tgt := 18) F dL_law_2056 (by decide) ?_
  refine jy_iload_n (pc' := 19) F 0 dL_law_18 rfl rfl rfl ?_
  refine jy_aload_n (pc' := 20) F 3 dL_law_19 rfl rfl rfl ?_
  refine jy_slen (pc' := 21) (v := 6) F hX hbl hbA dL_law_20 rfl rfl ?_
  refine jy_bipush (pc' := 23) (v := 6) F dL_law_21 (by decide) rfl ?_
  refine jy_isub (pc' := 24) (v := 0) F dL_law_23 (by decide) rfl ?_
  refine jy_icmp_gt (pc' := 27) (tgt := 2059) F dL_law_24 (by decide) rfl (fun _ => ?_) (fun h => absurd h (by decide))
  refine jy_iconst (pc' := 2060) (v := 1) F dL_law_2059 (by decide) rfl ?_
  exact jy_lawret F hr hlocks (by decide) (by decide) dL_law_2060
set_option maxHeartbeats 4000000 in
set_option maxRecDepth 100000 in
theorem lc_count {p : Program} {e : Env} {s : State} {m : MethodId} {below : List Frame} {meth : Method} {c : Code} (l : Launch) {b : Nat} {sq : Nat → Int32} (C0 : lw_At p s m meth c b 6 sq) (D : va_G) (k : jK) (F : jy_F p m c code 4 s #[Value.ref b] lw_tbl R_law D vwCl (jT k)) (hN : jy_N jW s) (h0 : Nat) (a2 : Nat) (a4 : Nat) (a5 : Nat) (a6 : Nat) (a7 : Nat) (a8 : Nat) (a9 : Nat) (a10 : Nat) (t0 : Nat) (s0 : Nat) (s1 : Nat) (s2 : Nat) (s3 : Nat) (m0 : Nat) (b1 : Nat) (b2 : Nat) (b3 : Nat) (b4 : Nat) (b5 : Nat) (b6 : Nat) (b7 : Nat) (w0 : Nat) (w1 : Nat) (w2 : Nat) (w3 : Nat) (w4 : Nat) (w5 : Nat) (w6 : Nat) (w7 : Nat) (w8 : Nat) (w9 : Nat) (w10 : Nat) (w11 : Nat) (w12 : Nat) (w13 : Nat) (w14 : Nat) (w15 : Nat) (w16 : Nat) (w17 : Nat) (w18 : Nat) (w19 : Nat) (w20 : Nat) (w21 : Nat) (w22 : Nat) (fa : Nat → Int32) (ha : fa 4 = -1 ∧ ∀ j, j ≠ 4 → fa j = 0) : JJ p l e room_1 s m #[Value.ref b] below meth c (lw_Z below #[Value.ref b] s) 4 D vwCl (fun q => s.heap.size ≤ q) (va_S (fun q => s.heap.size ≤ q) s.heap) 194 18023 [(h0, .inr (10, [.int 0, .long 0, .long 1, .ref t0, .ref a2, .ref s0, .ref a4, .int 0, .ref a5, .ref a6, .ref a7, .ref a8, .ref a9, .ref a10, .int 0])), (s0, .inr (4, [.int 0, .int 0, .int 0, .int 0, .ref s1, .ref s2, .ref s3])), (m0, .inr (11, [.ref b1, .ref b2, .int 0, .long 0, .long 1, .ref b3, .ref b4, .ref b5, .ref b6, .ref b7, .int 0, .int 0, .int 0, .int 0, .int 0, .int 0, .int (-1), .int (-1), .int 0, .int 0, .ref w0, .ref w1, .ref w2, .ref w3, .ref w4, .ref w5, .ref w6, .ref w7, .ref w8, .ref w9, .int 0, .int 0, .int 0, .ref w10, .ref w11, .int 0, .ref w12, .ref w13, .ref w14, .ref w15, .ref w16, .ref w17, .ref w18, .ref w19, .ref w20, .int 0, .ref w21, .ref w22, .int 0, .int 0, .int 0])), (b1, .inl (k.2.1, 1360, .inl fa))] 1740 [(3, .int 0), (2, .ref m0), (1, .ref h0), (0, .ref b)] [] := by
  obtain ⟨hx, hb, hr, hml, hown, hts, hX, hbl, hlocks, hgv⟩ := id C0
  have hA : ∀ q : Nat, s.heap.size ≤ q → (fun q : Nat => s.heap.size ≤ q) q := fun _ h => h
  have hbA : ¬ (fun q : Nat => s.heap.size ≤ q) b := Nat.not_le.mpr hbl
  refine jy_aload_n (pc' := 1741) F 2 dL_law_1740 rfl rfl rfl ?_
  refine jy_aload_n (pc' := 1742) F 3 dL_law_1741 rfl rfl rfl ?_
  refine jy_iload_n (pc' := 1743) F 0 dL_law_1742 rfl rfl rfl ?_
  refine jy_iconst (pc' := 1744) (v := 1) F dL_law_1743 (by decide) rfl ?_
  refine jy_iadd (pc' := 1745) (v := 1) F dL_law_1744 (by decide) rfl ?_
  refine jy_sld (pc' := 1746) (v := (sq 1)) F hX hbl hbA dL_law_1745 (vp_in_nI (n := 1) (by decide) (by decide)) rfl rfl ?_
  refine jy_aload_n (pc' := 1747) F 3 dL_law_1746 rfl rfl rfl ?_
  refine jy_iload_n (pc' := 1748) F 0 dL_law_1747 rfl rfl rfl ?_
  refine jy_iconst (pc' := 1749) (v := 2) F dL_law_1748 (by decide) rfl ?_
  refine jy_iadd (pc' := 1750) (v := 2) F dL_law_1749 (by decide) rfl ?_
  refine jy_sld (pc' := 1751) (v := (sq 2)) F hX hbl hbA dL_law_1750 (vp_in_nI (n := 2) (by decide) (by decide)) rfl rfl ?_
  refine jy_calli (pc' := 1754) (cells' := 194) (slots' := 18023) (wr := [(m0, .inr (11, [.ref b1, .ref b2, .int 0, .long 0, .long 1, .ref b3, .ref b4, .ref b5, .ref b6, .ref b7, .int 0, .int 0, .int 0, .int 0, .int 0, .int 0, .int (-1), .int (-1), .int 0, .int 0, .ref w0, .ref w1, .ref w2, .ref w3, .ref w4, .ref w5, .ref w6, .ref w7, .ref w8, .ref w9, .int 0, .int 0, .int 0, .ref w10, .ref w11, .int 0, .ref w12, .ref w13, .ref w14, .ref w15, .ref w16, .ref w17, .ref w18, .ref w19, .ref w20, .int 0, .ref w21, .ref w22, .int 0, .int 0, .int 0])), (b1, .inl (k.2.1, 1360, .inl fa))]) hA [0, 1] [2, 3] rfl rfl (by decide) (by decide) (jy_runV (As := [.int (sq 1), .int (sq 2)]) (b := h0) (q0 := 0) (ci := 10) (C := RX11) (T := TX11) (N := 15) (st := []) F hN (fun sz => c_X11_count l D k h0 a2 a4 a5 a6 a7 a8 a9 a10 t0 s0 s1 s2 s3 (sq 1) (sq 2) sz ) (jy_cV F gl_c_X11_count rfl hdX11_count (lm_171) (lm_1462) (lm_1463) (lm_1464) rfl rfl ⟨by decide, by decide⟩) rfl rfl [0, 1] rfl (by decide) rfl rfl (Nat.le_of_ble_eq_true rfl) dL_law_1751 ⟨by decide, by decide⟩) rfl rfl rfl (fun r_3 u_1 e_2 => ?_)
  subst e_2
  refine jy_aload_n (pc' := 1755) F 1 dL_law_1754 rfl rfl rfl ?_
  refine jy_aload_n (pc' := 1756) F 3 dL_law_1755 rfl rfl rfl ?_
  refine jy_iload_n (pc' := 1757) F 0 dL_law_1756 rfl rfl rfl ?_
  refine jy_iconst (pc' := 1758) (v := 1) F dL_law_1757 (by decide) rfl ?_
  refine jy_iadd (pc' := 1759) (v := 1) F dL_law_1758 (by decide) rfl ?_
  refine jy_sld (pc' := 1760) (v := (sq 1)) F hX hbl hbA dL_law_1759 (vp_in_nI (n := 1) (by decide) (by decide)) rfl rfl ?_
  refine jy_aload_n (pc' := 1761) F 3 dL_law_1760 rfl rfl rfl ?_
  refine jy_iload_n (pc' := 1762) F 0 dL_law_1761 rfl rfl rfl ?_
  refine jy_iconst (pc' := 1763) (v := 2) F dL_law_1762 (by decide) rfl ?_
  refine jy_iadd (pc' := 1764) (v := 2) F dL_law_1763 (by decide) rfl ?_
  refine jy_sld (pc' := 1765) (v := (sq 2)) F hX hbl hbA dL_law_1764 (vp_in_nI (n := 2) (by decide) (by decide)) rfl rfl ?_
  refine jy_calli (pc' := 1768) (cells' := 194) (slots' := 18023) (wr := []) hA [0, 1] [] rfl rfl (by decide) (by decide) (jy_runV (As := [.int (sq 1), .int (sq 2)]) (b := m0) (q0 := 0) (ci := 11) (C := RX12) (T := TX12) (N := 51) (st := [.int (-1)]) F hN (fun sz => c_X12_count l D k m0 b1 b2 b3 b4 b5 b6 b7 w0 w1 w2 w3 w4 w5 w6 w7 w8 w9 w10 w11 w12 w13 w14 w15 w16 w17 w18 w19 w20 w21 w22 fa (sq 1) (sq 2) sz (ha)) (jy_cV F gl_c_X12_count rfl hdX12_count (lm_185) (lm_2288) (lm_2289) (lm_2290) rfl rfl ⟨by decide, by decide⟩) rfl rfl [0, 1] rfl (by decide) rfl rfl (Nat.le_of_ble_eq_true rfl) dL_law_1765 ⟨by decide, by decide⟩) rfl rfl rfl (fun r_6 u_4 e_5 => ?_)
  subst e_5
  refine jy_icmp_eq (pc' := 1771) (tgt := 2053) F dL_law_1768 (by decide) rfl (fun _ => ?_) (fun h => absurd h (by decide))
  refine jy_iinc (pc' := 2056) (v := 6) (lv' := [(3, .int 6), (2, .ref m0), (1, .ref h0), (0, .ref b)]) F 0 dL_law_2053 rfl (by decide) (by decide) rfl rfl ?_
  refine jy_goto (tgt := 18) F dL_law_2056 (by decide) ?_
  refine jy_iload_n (pc' := 19) F 0 dL_law_18 rfl rfl rfl ?_
  refine jy_aload_n (pc' := 20) F 3 dL_law_19 rfl rfl rfl ?_
  refine jy_slen (pc' := 21) (v := 6) F hX hbl hbA dL_law_20 rfl rfl ?_
  refine jy_bipush (pc' := 23) (v := 6) F dL_law_21 (by decide) rfl ?_
  refine jy_isub (pc' := 24) (v := 0) F dL_law_23 (by decide) rfl ?_
  refine jy_icmp_gt (pc' := 27) (tgt := 2059) F dL_law_24 (by decide) rfl (fun _ => ?_) (fun h => absurd h (by decide))
  refine jy_iconst (pc' := 2060) (v := 1) F dL_law_2059 (by decide) rfl ?_
  exact jy_lawret F hr hlocks (by decide) (by decide) dL_law_2060
