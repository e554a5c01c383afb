set_option maxHeartbeats 4000000 in
set_option maxRecDepth 100000 in
theorem lc_told {p : Program} {e : Env} {s : State} {m : MethodId} {below : List Frame} {meth : Method} {c : Code} (l : Launch) {b : Nat} {sq : Nat → Int32} (C0 : lw_At p s m meth c b 6 sq) (D : va_G) (k : jK) (F : jy_F p m c code 4 s #[Value.ref b] lw_tbl R_law D vwCl (jT k)) (hN : jy_N jW s) (h0 : Nat) (a2 : Nat) (a4 : Nat) (a5 : Nat) (a6 : Nat) (a7 : Nat) (a8 : Nat) (a9 : Nat) (a10 : Nat) (t0 : Nat) (s0 : Nat) (s1 : Nat) (s2 : Nat) (s3 : Nat) (m0 : Nat) (b1 : Nat) (b2 : Nat) (b3 : Nat) (b4 : Nat) (b5 : Nat) (b6 : Nat) (b7 : Nat) (w0 : Nat) (w1 : Nat) (w2 : Nat) (w3 : Nat) (w4 : Nat) (w5 : Nat) (w6 : Nat) (w7 : Nat) (w8 : Nat) (w9 : Nat) (w10 : Nat) (w11 : Nat) (w12 : Nat) (w13 : Nat) (w14 : Nat) (w15 : Nat) (w16 : Nat) (w17 : Nat) (w18 : Nat) (w19 : Nat) (w20 : Nat) (w21 : Nat) (w22 : Nat) (fa : Nat → Int32) (ha : fa 4 = -1 ∧ ∀ j, j ≠ 4 → fa j = 0) : JJ p l e room_1 s m #[Value.ref b] below meth c (lw_Z below #[Value.ref b] s) 4 D vwCl (fun q => s.heap.size ≤ q) (va_S (fun q => s.heap.size ≤ q) s.heap) 194 18023 [(h0, .inr (10, [.int 0, .long 0, .long 1, .ref t0, .ref a2, .ref s0, .ref a4, .int 0, .ref a5, .ref a6, .ref a7, .ref a8, .ref a9, .ref a10, .int 0])), (s0, .inr (4, [.int 0, .int 0, .int 0, .int 0, .ref s1, .ref s2, .ref s3])), (m0, .inr (11, [.ref b1, .ref b2, .int 0, .long 0, .long 1, .ref b3, .ref b4, .ref b5, .ref b6, .ref b7, .int 0, .int 0, .int 0, .int 0, .int 0, .int 0, .int (-1), .int (-1), .int 0, .int 0, .ref w0, .ref w1, .ref w2, .ref w3, .ref w4, .ref w5, .ref w6, .ref w7, .ref w8, .ref w9, .int 0, .int 0, .int 0, .ref w10, .ref w11, .int 0, .ref w12, .ref w13, .ref w14, .ref w15, .ref w16, .ref w17, .ref w18, .ref w19, .ref w20, .int 0, .ref w21, .ref w22, .int 0, .int 0, .int 0])), (b1, .inl (k.2.1, 1360, .inl fa))] 611 [(3, .int 0), (2, .ref m0), (1, .ref h0), (0, .ref b)] [] := by
  obtain ⟨hx, hb, hr, hml, hown, hts, hX, hbl, hlocks, hgv⟩ := id C0
  have hA : ∀ q : Nat, s.heap.size ≤ q → (fun q : Nat => s.heap.size ≤ q) q := fun _ h => h
  have hbA : ¬ (fun q : Nat => s.heap.size ≤ q) b := Nat.not_le.mpr hbl
  refine jy_aload_n (pc' := 612) F 2 dL_law_611 rfl rfl rfl ?_
  refine jy_aload_n (pc' := 613) F 3 dL_law_612 rfl rfl rfl ?_
  refine jy_iload_n (pc' := 614) F 0 dL_law_613 rfl rfl rfl ?_
  refine jy_iconst (pc' := 615) (v := 1) F dL_law_614 (by decide) rfl ?_
  refine jy_iadd (pc' := 616) (v := 1) F dL_law_615 (by decide) rfl ?_
  refine jy_sld (pc' := 617) (v := (sq 1)) F hX hbl hbA dL_law_616 (vp_in_nI (n := 1) (by decide) (by decide)) rfl rfl ?_
  refine jy_calli (pc' := 620) (cells' := 194) (slots' := 18023) (wr := [(m0, .inr (11, [.ref b1, .ref b2, .int 0, .long 0, .long 1, .ref b3, .ref b4, .ref b5, .ref b6, .ref b7, .int 0, .int 0, .int 0, .int 0, .int 0, .int 0, .int (-1), .int (-1), .int 0, .int 0, .ref w0, .ref w1, .ref w2, .ref w3, .ref w4, .ref w5, .ref w6, .ref w7, .ref w8, .ref w9, .int 0, .int 0, .int 0, .ref w10, .ref w11, .int 0, .ref w12, .ref w13, .ref w14, .ref w15, .ref w16, .ref w17, .ref w18, .ref w19, .ref w20, .int 0, .ref w21, .ref w22, .int 0, .int 0, .int 0])), (b1, .inl (k.2.1, 1360, .inl fa))]) hA [0, 1] [2, 3] rfl rfl (by decide) (by decide) (jy_runV (As := [.int (sq 1)]) (b := h0) (q0 := 0) (ci := 10) (C := RX11) (T := TX11) (N := 15) (st := []) F hN (fun sz => c_X11_told l D k h0 a2 a4 a5 a6 a7 a8 a9 a10 t0 s0 s1 s2 s3 (sq 1) sz ) (jy_cV F gl_c_X11_told rfl hdX11_told (lm_171) (lm_995) (lm_996) (lm_997) rfl rfl ⟨by decide, by decide⟩) rfl rfl [0, 1] rfl (by decide) rfl rfl (Nat.le_of_ble_eq_true rfl) dL_law_617 ⟨by decide, by decide⟩) rfl rfl rfl (fun r_3 u_1 e_2 => ?_)
  rcases e_2 with ⟨z_5, h_4⟩ | ⟨z_6, h_4⟩
  · subst z_5
    refine jy_aload_n (pc' := 621) F 1 dL_law_620 rfl rfl rfl ?_
    refine jy_aload_n (pc' := 622) F 3 dL_law_621 rfl rfl rfl ?_
    refine jy_iload_n (pc' := 623) F 0 dL_law_622 rfl rfl rfl ?_
    refine jy_iconst (pc' := 624) (v := 1) F dL_law_623 (by decide) rfl ?_
    refine jy_iadd (pc' := 625) (v := 1) F dL_law_624 (by decide) rfl ?_
    refine jy_sld (pc' := 626) (v := (sq 1)) F hX hbl hbA dL_law_625 (vp_in_nI (n := 1) (by decide) (by decide)) rfl rfl ?_
    refine jy_calli (pc' := 629) (cells' := 194) (slots' := 18023) (wr := []) hA [0, 1] [] rfl rfl (by decide) (by decide) (jy_runV (As := [.int (sq 1)]) (b := m0) (q0 := 0) (ci := 11) (C := RX12) (T := TX12) (N := 51) (st := [.int 0]) F hN (fun sz => c_X12_told l D k m0 b1 b2 b3 b4 b5 b6 b7 w0 w1 w2 w3 w4 w5 w6 w7 w8 w9 w10 w11 w12 w13 w14 w15 w16 w17 w18 w19 w20 w21 w22 fa (sq 1) sz (ha)) (jy_cV F gl_c_X12_told rfl hdX12_told (lm_185) (lm_1931) (lm_1932) (lm_1933) rfl rfl ⟨by decide, by decide⟩) rfl rfl [0, 1] rfl (by decide) rfl rfl (Nat.le_of_ble_eq_true rfl) dL_law_626 ⟨by decide, by decide⟩) rfl rfl rfl (fun r_9 u_7 e_8 => ?_)
    rcases e_8 with ⟨z_11, h_10⟩ | ⟨z_12, h_10⟩
    · subst z_11
      refine jy_icmp_eq (pc' := 632) (tgt := 2053) F dL_law_629 (by decide) rfl (fun _ => ?_) (fun h => absurd h (by decide))
      refine jy_iinc (pc' := 2056) (v := 6) (lv' := [(3, .int 6), (2, .ref m0), (1, .ref h0), (0, .ref b)]) F 0 dL_law_2053 rfl (by decide) (by decide) rfl rfl ?_
      refine jy_goto (tgt := 18) F dL_law_2056 (by decide) ?_
      refine jy_iload_n (pc' := 19) F 0 dL_law_18 rfl rfl rfl ?_
      refine jy_aload_n (pc' := 20) F 3 dL_law_19 rfl rfl rfl ?_
      refine jy_slen (pc' := 21) (v := 6) F hX hbl hbA dL_law_20 rfl rfl ?_
      refine jy_bipush (pc' := 23) (v := 6) F dL_law_21 (by decide) rfl ?_
      refine jy_isub (pc' := 24) (v := 0) F dL_law_23 (by decide) rfl ?_
      refine jy_icmp_gt (pc' := 27) (tgt := 2059) F dL_law_24 (by decide) rfl (fun _ => ?_) (fun h => absurd h (by decide))
      refine jy_iconst (pc' := 2060) (v := 1) F dL_law_2059 (by decide) rfl ?_
      exact jy_lawret F hr hlocks (by decide) (by decide) dL_law_2060
    · subst z_12
      exact absurd h_4 h_10
  · subst z_6
    refine jy_aload_n (pc' := 621) F 1 dL_law_620 rfl rfl rfl ?_
    refine jy_aload_n (pc' := 622) F 3 dL_law_621 rfl rfl rfl ?_
    refine jy_iload_n (pc' := 623) F 0 dL_law_622 rfl rfl rfl ?_
    refine jy_iconst (pc' := 624) (v := 1) F dL_law_623 (by decide) rfl ?_
    refine jy_iadd (pc' := 625) (v := 1) F dL_law_624 (by decide) rfl ?_
    refine jy_sld (pc' := 626) (v := (sq 1)) F hX hbl hbA dL_law_625 (vp_in_nI (n := 1) (by decide) (by decide)) rfl rfl ?_
    refine jy_calli (pc' := 629) (cells' := 194) (slots' := 18023) (wr := []) hA [0, 1] [] rfl rfl (by decide) (by decide) (jy_runV (As := [.int (sq 1)]) (b := m0) (q0 := 0) (ci := 11) (C := RX12) (T := TX12) (N := 51) (st := [.int (-1)]) F hN (fun sz => c_X12_told l D k m0 b1 b2 b3 b4 b5 b6 b7 w0 w1 w2 w3 w4 w5 w6 w7 w8 w9 w10 w11 w12 w13 w14 w15 w16 w17 w18 w19 w20 w21 w22 fa (sq 1) sz (ha)) (jy_cV F gl_c_X12_told rfl hdX12_told (lm_185) (lm_1931) (lm_1932) (lm_1933) rfl rfl ⟨by decide, by decide⟩) rfl rfl [0, 1] rfl (by decide) rfl rfl (Nat.le_of_ble_eq_true rfl) dL_law_626 ⟨by decide, by decide⟩) rfl rfl rfl (fun r_17 u_15 e_16 => ?_)
    rcases e_16 with ⟨z_19, h_18⟩ | ⟨z_20, h_18⟩
    · subst z_19
      exact absurd h_18 h_4
    · subst z_20
      refine jy_icmp_eq (pc' := 632) (tgt := 2053) F dL_law_629 (by decide) rfl (fun _ => ?_) (fun h => absurd h (by decide))
      refine jy_iinc (pc' := 2056) (v := 6) (lv' := [(3, .int 6), (2, .ref m0), (1, .ref h0), (0, .ref b)]) F 0 dL_law_2053 rfl (by decide) (by decide) rfl rfl ?_
      refine jy_goto (tgt := 18) F dL_law_2056 (by decide) ?_
      refine jy_iload_n (pc' := 19) F 0 dL_law_18 rfl rfl rfl ?_
      refine jy_aload_n (pc' := 20) F 3 dL_law_19 rfl rfl rfl ?_
      refine jy_slen (pc' := 21) (v := 6) F hX hbl hbA dL_law_20 rfl rfl ?_
      refine jy_bipush (pc' := 23) (v := 6) F dL_law_21 (by decide) rfl ?_
      refine jy_isub (pc' := 24) (v := 0) F dL_law_23 (by decide) rfl ?_
      refine jy_icmp_gt (pc' := 27) (tgt := 2059) F dL_law_24 (by decide) rfl (fun _ => ?_) (fun h => absurd h (by decide))
      refine jy_iconst (pc' := 2060) (v := 1) F dL_law_2059 (by decide) rfl ?_
      exact jy_lawret F hr hlocks (by decide) (by decide) dL_law_2060
set_option maxHeartbeats 4000000 in
set_option maxRecDepth 100000 in
theorem lc_automaton {p : Program} {e : Env} {s : State} {m : MethodId} {below : List Frame} {meth : Method} {c : Code} (l : Launch) {b : Nat} {sq : Nat → Int32} (C0 : lw_At p s m meth c b 6 sq) (D : va_G) (k : jK) (F : jy_F p m c code 4 s #[Value.ref b] lw_tbl R_law D vwCl (jT k)) (hN : jy_N jW s) (h0 : Nat) (a2 : Nat) (a4 : Nat) (a5 : Nat) (a6 : Nat) (a7 : Nat) (a8 : Nat) (a9 : Nat) (a10 : Nat) (t0 : Nat) (s0 : Nat) (s1 : Nat) (s2 : Nat) (s3 : Nat) (m0 : Nat) (b1 : Nat) (b2 : Nat) (b3 : Nat) (b4 : Nat) (b5 : Nat) (b6 : Nat) (b7 : Nat) (w0 : Nat) (w1 : Nat) (w2 : Nat) (w3 : Nat) (w4 : Nat) (w5 : Nat) (w6 : Nat) (w7 : Nat) (w8 : Nat) (w9 : Nat) (w10 : Nat) (w11 : Nat) (w12 : Nat) (w13 : Nat) (w14 : Nat) (w15 : Nat) (w16 : Nat) (w17 : Nat) (w18 : Nat) (w19 : Nat) (w20 : Nat) (w21 : Nat) (w22 : Nat) (fa : Nat → Int32) (ha : fa 4 = -1 ∧ ∀ j, j ≠ 4 → fa j = 0) : JJ p l e room_1 s m #[Value.ref b] below meth c (lw_Z below #[Value.ref b] s) 4 D vwCl (fun q => s.heap.size ≤ q) (va_S (fun q => s.heap.size ≤ q) s.heap) 194 18023 [(h0, .inr (10, [.int 0, .long 0, .long 1, .ref t0, .ref a2, .ref s0, .ref a4, .int 0, .ref a5, .ref a6, .ref a7, .ref a8, .ref a9, .ref a10, .int 0])), (s0, .inr (4, [.int 0, .int 0, .int 0, .int 0, .ref s1, .ref s2, .ref s3])), (m0, .inr (11, [.ref b1, .ref b2, .int 0, .long 0, .long 1, .ref b3, .ref b4, .ref b5, .ref b6, .ref b7, .int 0, .int 0, .int 0, .int 0, .int 0, .int 0, .int (-1), .int (-1), .int 0, .int 0, .ref w0, .ref w1, .ref w2, .ref w3, .ref w4, .ref w5, .ref w6, .ref w7, .ref w8, .ref w9, .int 0, .int 0, .int 0, .ref w10, .ref w11, .int 0, .ref w12, .ref w13, .ref w14, .ref w15, .ref w16, .ref w17, .ref w18, .ref w19, .ref w20, .int 0, .ref w21, .ref w22, .int 0, .int 0, .int 0])), (b1, .inl (k.2.1, 1360, .inl fa))] 634 [(3, .int 0), (2, .ref m0), (1, .ref h0), (0, .ref b)] [] := by
  obtain ⟨hx, hb, hr, hml, hown, hts, hX, hbl, hlocks, hgv⟩ := id C0
  have hA : ∀ q : Nat, s.heap.size ≤ q → (fun q : Nat => s.heap.size ≤ q) q := fun _ h => h
  have hbA : ¬ (fun q : Nat => s.heap.size ≤ q) b := Nat.not_le.mpr hbl
  refine jy_aload_n (pc' := 635) F 2 dL_law_634 rfl rfl rfl ?_
  refine jy_aload_n (pc' := 636) F 3 dL_law_635 rfl rfl rfl ?_
  refine jy_iload_n (pc' := 637) F 0 dL_law_636 rfl rfl rfl ?_
  refine jy_iconst (pc' := 638) (v := 1) F dL_law_637 (by decide) rfl ?_
  refine jy_iadd (pc' := 639) (v := 1) F dL_law_638 (by decide) rfl ?_
  refine jy_sld (pc' := 640) (v := (sq 1)) F hX hbl hbA dL_law_639 (vp_in_nI (n := 1) (by decide) (by decide)) rfl rfl ?_
  refine jy_aload_n (pc' := 641) F 3 dL_law_640 rfl rfl rfl ?_
  refine jy_iload_n (pc' := 642) F 0 dL_law_641 rfl rfl rfl ?_
  refine jy_iconst (pc' := 643) (v := 2) F dL_law_642 (by decide) rfl ?_
  refine jy_iadd (pc' := 644) (v := 2) F dL_law_643 (by decide) rfl ?_
  refine jy_sld (pc' := 645) (v := (sq 2)) F hX hbl hbA dL_law_644 (vp_in_nI (n := 2) (by decide) (by decide)) rfl rfl ?_
  refine jy_calli (pc' := 648) (cells' := 194) (slots' := 18023) (wr := [(m0, .inr (11, [.ref b1, .ref b2, .int 0, .long 0, .long 1, .ref b3, .ref b4, .ref b5, .ref b6, .ref b7, .int 0, .int 0, .int 0, .int 0, .int 0, .int 0, .int (-1), .int (-1), .int 0, .int 0, .ref w0, .ref w1, .ref w2, .ref w3, .ref w4, .ref w5, .ref w6, .ref w7, .ref w8, .ref w9, .int 0, .int 0, .int 0, .ref w10, .ref w11, .int 0, .ref w12, .ref w13, .ref w14, .ref w15, .ref w16, .ref w17, .ref w18, .ref w19, .ref w20, .int 0, .ref w21, .ref w22, .int 0, .int 0, .int 0])), (b1, .inl (k.2.1, 1360, .inl fa))]) hA [0, 1] [2, 3] rfl rfl (by decide) (by decide) (jy_runV (As := [.int (sq 1), .int (sq 2)]) (b := h0) (q0 := 0) (ci := 10) (C := RX11) (T := TX11) (N := 15) (st := []) F hN (fun sz => c_X11_automaton l D k h0 a2 a4 a5 a6 a7 a8 a9 a10 t0 s0 s1 s2 s3 (sq 1) (sq 2) sz ) (jy_cV F gl_c_X11_automaton rfl hdX11_automaton (lm_171) (lm_999) (lm_1000) (lm_1001) rfl rfl ⟨by decide, by decide⟩) rfl rfl [0, 1] rfl (by decide) rfl rfl (Nat.le_of_ble_eq_true rfl) dL_law_645 ⟨by decide, by decide⟩) rfl rfl rfl (fun r_3 u_1 e_2 => ?_)
  subst e_2
  refine jy_aload_n (pc' := 649) F 1 dL_law_648 rfl rfl rfl ?_
  refine jy_aload_n (pc' := 650) F 3 dL_law_649 rfl rfl rfl ?_
  refine jy_iload_n (pc' := 651) F 0 dL_law_650 rfl rfl rfl ?_
  refine jy_iconst (pc' := 652) (v := 1) F dL_law_651 (by decide) rfl ?_
  refine jy_iadd (pc' := 653) (v := 1) F dL_law_652 (by decide) rfl ?_
  refine jy_sld (pc' := 654) (v := (sq 1)) F hX hbl hbA dL_law_653 (vp_in_nI (n := 1) (by decide) (by decide)) rfl rfl ?_
  refine jy_aload_n (pc' := 655) F 3 dL_law_654 rfl rfl rfl ?_
  refine jy_iload_n (pc' := 656) F 0 dL_law_655 rfl rfl rfl ?_
  refine jy_iconst (pc' := 657) (v := 2) F dL_law_656 (by decide) rfl ?_
  refine jy_iadd (pc' := 658) (v := 2) F dL_law_657 (by decide) rfl ?_
  refine jy_sld (pc' := 659) (v := (sq 2)) F hX hbl hbA dL_law_658 (vp_in_nI (n := 2) (by decide) (by decide)) rfl rfl ?_
  refine jy_calli (pc' := 662) (cells' := 194) (slots' := 18023) (wr := []) hA [0, 1] [] rfl rfl (by decide) (by decide) (jy_runV (As := [.int (sq 1), .int (sq 2)]) (b := m0) (q0 := 0) (ci := 11) (C := RX12) (T := TX12) (N := 51) (st := [.int (-1)]) F hN (fun sz => c_X12_automaton l D k m0 b1 b2 b3 b4 b5 b6 b7 w0 w1 w2 w3 w4 w5 w6 w7 w8 w9 w10 w11 w12 w13 w14 w15 w16 w17 w18 w19 w20 w21 w22 fa (sq 1) (sq 2) sz (ha)) (jy_cV F gl_c_X12_automaton rfl hdX12_automaton (lm_185) (lm_1935) (lm_1936) (lm_1937) rfl rfl ⟨by decide, by decide⟩) rfl rfl [0, 1] rfl (by decide) rfl rfl (Nat.le_of_ble_eq_true rfl) dL_law_659 ⟨by decide, by decide⟩) rfl rfl rfl (fun r_6 u_4 e_5 => ?_)
  subst e_5
  refine jy_icmp_eq (pc' := 665) (tgt := 2053) F dL_law_662 (by decide) rfl (fun _ => ?_) (fun h => absurd h (by decide))
  refine jy_iinc (pc' := 2056) (v := 6) (lv' := [(3, .int 6), (2, .ref m0), (1, .ref h0), (0, .ref b)]) F 0 dL_law_2053 rfl (by decide) (by decide) rfl rfl ?_
  refine jy_goto (tgt := 18) F dL_law_2056 (by decide) ?_
  refine jy_iload_n (pc' := 19) F 0 dL_law_18 rfl rfl rfl ?_
  refine jy_aload_n (pc' := 20) F 3 dL_law_19 rfl rfl rfl ?_
  refine jy_slen (pc' := 21) (v := 6) F hX hbl hbA dL_law_20 rfl rfl ?_
  refine jy_bipush (pc' := 23) (v := 6) F dL_law_21 (by decide) rfl ?_
  refine jy_isub (pc' := 24) (v := 0) F dL_law_23 (by decide) rfl ?_
  refine jy_icmp_gt (pc' := 27) (tgt := 2059) F dL_law_24 (by decide) rfl (fun _ => ?_) (fun h => absurd h (by decide))
  refine jy_iconst (pc' := 2060) (v := 1) F dL_law_2059 (by decide) rfl ?_
  exact jy_lawret F hr hlocks (by decide) (by decide) dL_law_2060
set_option maxHeartbeats 4000000 in
set_option maxRecDepth 100000 in
theorem lc_rule {p : Program} {e : Env} {s : State} {m : MethodId} {below : List Frame} {meth : Method} {c : Code} (l : Launch) {b : Nat} {sq : Nat → Int32} (C0 : lw_At p s m meth c b 6 sq) (D : va_G) (k : jK) (F : jy_F p m c code 4 s #[Value.ref b] lw_tbl R_law D vwCl (jT k)) (hN : jy_N jW s) (h0 : Nat) (a2 : Nat) (a4 : Nat) (a5 : Nat) (a6 : Nat) (a7 : Nat) (a8 : Nat) (a9 : Nat) (a10 : Nat) (t0 : Nat) (s0 : Nat) (s1 : Nat) (s2 : Nat) (s3 : Nat) (m0 : Nat) (b1 : Nat) (b2 : Nat) (b3 : Nat) (b4 : Nat) (b5 : Nat) (b6 : Nat) (b7 : Nat) (w0 : Nat) (w1 : Nat) (w2 : Nat) (w3 : Nat) (w4 : Nat) (w5 : Nat) (w6 : Nat) (w7 : Nat) (w8 : Nat) (w9 : Nat) (w10 : Nat) (w11 : Nat) (w12 : Nat) (w13 : Nat) (w14 : Nat) (w15 : Nat) (w16 : Nat) (w17 : Nat) (w18 : Nat) (w19 : Nat) (w20 : Nat) (w21 : Nat) (w22 : Nat) (fa : Nat → Int32) (ha : fa 4 = -1 ∧ ∀ j, j ≠ 4 → fa j = 0) : JJ p l e room_1 s m #[Value.ref b] below meth c (lw_Z below #[Value.ref b] s) 4 D vwCl (fun q => s.heap.size ≤ q) (va_S (fun q => s.heap.size ≤ q) s.heap) 194 18023 [(h0, .inr (10, [.int 0, .long 0, .long 1, .ref t0, .ref a2, .ref s0, .ref a4, .int 0, .ref a5, .ref a6, .ref a7, .ref a8, .ref a9, .ref a10, .int 0])), (s0, .inr (4, [.int 0, .int 0, .int 0, .int 0, .ref s1, .ref s2, .ref s3])), (m0, .inr (11, [.ref b1, .ref b2, .int 0, .long 0, .long 1, .ref b3, .ref b4, .ref b5, .ref b6, .ref b7, .int 0, .int 0, .int 0, .int 0, .int 0, .int 0, .int (-1), .int (-1), .int 0, .int 0, .ref w0, .ref w1, .ref w2, .ref w3, .ref w4, .ref w5, .ref w6, .ref w7, .ref w8, .ref w9, .int 0, .int 0, .int 0, .ref w10, .ref w11, .int 0, .ref w12, .ref w13, .ref w14, .ref w15, .ref w16, .ref w17, .ref w18, .ref w19, .ref w20, .int 0, .ref w21, .ref w22, .int 0, .int 0, .int 0])), (b1, .inl (k.2.1, 1360, .inl fa))] 667 [(3, .int 0), (2, .ref m0), (1, .ref h0), (0, .ref b)] [] := by
  obtain ⟨hx, hb, hr, hml, hown, hts, hX, hbl, hlocks, hgv⟩ := id C0
  have hA : ∀ q : Nat, s.heap.size ≤ q → (fun q : Nat => s.heap.size ≤ q) q := fun _ h => h
  have hbA : ¬ (fun q : Nat => s.heap.size ≤ q) b := Nat.not_le.mpr hbl
  refine jy_aload_n (pc' := 668) F 2 dL_law_667 rfl rfl rfl ?_
  refine jy_aload_n (pc' := 669) F 3 dL_law_668 rfl rfl rfl ?_
  refine jy_iload_n (pc' := 670) F 0 dL_law_669 rfl rfl rfl ?_
  refine jy_iconst (pc' := 671) (v := 1) F dL_law_670 (by decide) rfl ?_
  refine jy_iadd (pc' := 672) (v := 1) F dL_law_671 (by decide) rfl ?_
  refine jy_sld (pc' := 673) (v := (sq 1)) F hX hbl hbA dL_law_672 (vp_in_nI (n := 1) (by decide) (by decide)) rfl rfl ?_
  refine jy_aload_n (pc' := 674) F 3 dL_law_673 rfl rfl rfl ?_
  refine jy_iload_n (pc' := 675) F 0 dL_law_674 rfl rfl rfl ?_
  refine jy_iconst (pc' := 676) (v := 2) F dL_law_675 (by decide) rfl ?_
  refine jy_iadd (pc' := 677) (v := 2) F dL_law_676 (by decide) rfl ?_
  refine jy_sld (pc' := 678) (v := (sq 2)) F hX hbl hbA dL_law_677 (vp_in_nI (n := 2) (by decide) (by decide)) rfl rfl ?_
  refine jy_aload_n (pc' := 679) F 3 dL_law_678 rfl rfl rfl ?_
  refine jy_iload_n (pc' := 680) F 0 dL_law_679 rfl rfl rfl ?_
  refine jy_iconst (pc' := 681) (v := 3) F dL_law_680 (by decide) rfl ?_
  refine jy_iadd (pc' := 682) (v := 3) F dL_law_681 (by decide) rfl ?_
  refine jy_sld (pc' := 683) (v := (sq 3)) F hX hbl hbA dL_law_682 (vp_in_nI (n := 3) (by decide) (by decide)) rfl rfl ?_
  refine jy_calli (pc' := 686) (cells' := 194) (slots' := 18023) (wr := [(m0, .inr (11, [.ref b1, .ref b2, .int 0, .long 0, .long 1, .ref b3, .ref b4, .ref b5, .ref b6, .ref b7, .int 0, .int 0, .int 0, .int 0, .int 0, .int 0, .int (-1), .int (-1), .int 0, .int 0, .ref w0, .ref w1, .ref w2, .ref w3, .ref w4, .ref w5, .ref w6, .ref w7, .ref w8, .ref w9, .int 0, .int 0, .int 0, .ref w10, .ref w11, .int 0, .ref w12, .ref w13, .ref w14, .ref w15, .ref w16, .ref w17, .ref w18, .ref w19, .ref w20, .int 0, .ref w21, .ref w22, .int 0, .int 0, .int 0])), (b1, .inl (k.2.1, 1360, .inl fa))]) hA [0, 1] [2, 3] rfl rfl (by decide) (by decide) (jy_runV (As := [.int (sq 1), .int (sq 2), .int (sq 3)]) (b := h0) (q0 := 0) (ci := 10) (C := RX11) (T := TX11) (N := 15) (st := []) F hN (fun sz => c_X11_rule l D k h0 a2 a4 a5 a6 a7 a8 a9 a10 t0 s0 s1 s2 s3 (sq 1) (sq 2) (sq 3) sz ) (jy_cV F gl_c_X11_rule rfl hdX11_rule (lm_171) (lm_1008) (lm_1009) (lm_1010) rfl rfl ⟨by decide, by decide⟩) rfl rfl [0, 1] rfl (by decide) rfl rfl (Nat.le_of_ble_eq_true rfl) dL_law_683 ⟨by decide, by decide⟩) rfl rfl rfl (fun r_3 u_1 e_2 => ?_)
  subst e_2
  refine jy_aload_n (pc' := 687) F 1 dL_law_686 rfl rfl rfl ?_
  refine jy_aload_n (pc' := 688) F 3 dL_law_687 rfl rfl rfl ?_
  refine jy_iload_n (pc' := 689) F 0 dL_law_688 rfl rfl rfl ?_
  refine jy_iconst (pc' := 690) (v := 1) F dL_law_689 (by decide) rfl ?_
  refine jy_iadd (pc' := 691) (v := 1) F dL_law_690 (by decide) rfl ?_
  refine jy_sld (pc' := 692) (v := (sq 1)) F hX hbl hbA dL_law_691 (vp_in_nI (n := 1) (by decide) (by decide)) rfl rfl ?_
  refine jy_aload_n (pc' := 693) F 3 dL_law_692 rfl rfl rfl ?_
  refine jy_iload_n (pc' := 694) F 0 dL_law_693 rfl rfl rfl ?_
  refine jy_iconst (pc' := 695) (v := 2) F dL_law_694 (by decide) rfl ?_
  refine jy_iadd (pc' := 696) (v := 2) F dL_law_695 (by decide) rfl ?_
  refine jy_sld (pc' := 697) (v := (sq 2)) F hX hbl hbA dL_law_696 (vp_in_nI (n := 2) (by decide) (by decide)) rfl rfl ?_
  refine jy_aload_n (pc' := 698) F 3 dL_law_697 rfl rfl rfl ?_
  refine jy_iload_n (pc' := 699) F 0 dL_law_698 rfl rfl rfl ?_
  refine jy_iconst (pc' := 700) (v := 3) F dL_law_699 (by decide) rfl ?_
  refine jy_iadd (pc' := 701) (v := 3) F dL_law_700 (by decide) rfl ?_
  refine jy_sld (pc' := 702) (v := (sq 3)) F hX hbl hbA dL_law_701 (vp_in_nI (n := 3) (by decide) (by decide)) rfl rfl ?_
  refine jy_calli (pc' := 705) (cells' := 194) (slots' := 18023) (wr := []) hA [0, 1] [] rfl rfl (by decide) (by decide) (jy_runV (As := [.int (sq 1), .int (sq 2), .int (sq 3)]) (b := m0) (q0 := 0) (ci := 11) (C := RX12) (T := TX12) (N := 51) (st := [.int (-1)]) F hN (fun sz => c_X12_rule l D k m0 b1 b2 b3 b4 b5 b6 b7 w0 w1 w2 w3 w4 w5 w6 w7 w8 w9 w10 w11 w12 w13 w14 w15 w16 w17 w18 w19 w20 w21 w22 fa (sq 1) (sq 2) (sq 3) sz (ha)) (jy_cV F gl_c_X12_rule rfl hdX12_rule (lm_185) (lm_1947) (lm_1948) (lm_1949) rfl rfl ⟨by decide, by decide⟩) rfl rfl [0, 1] rfl (by decide) rfl rfl (Nat.le_of_ble_eq_true rfl) dL_law_702 ⟨by decide, by decide⟩) rfl rfl rfl (fun r_6 u_4 e_5 => ?_)
  subst e_5
  refine jy_icmp_eq (pc' := 708) (tgt := 2053) F dL_law_705 (by decide) rfl (fun _ => ?_) (fun h => absurd h (by decide))
  refine jy_iinc (pc' := 2056) (v := 6) (lv' := [(3, .int 6), (2, .ref m0), (1, .ref h0), (0, .ref b)]) F 0 dL_law_2053 rfl (by decide) (by decide) rfl rfl ?_
  refine jy_goto (tgt := 18) F dL_law_2056 (by decide) ?_
  refine jy_iload_n (pc' := 19) F 0 dL_law_18 rfl rfl rfl ?_
  refine jy_aload_n (pc' := 20) F 3 dL_law_19 rfl rfl rfl ?_
  refine jy_slen (pc' := 21) (v := 6) F hX hbl hbA dL_law_20 rfl rfl ?_
  refine jy_bipush (pc' := 23) (v := 6) F dL_law_21 (by decide) rfl ?_
  refine jy_isub (pc' := 24) (v := 0) F dL_law_23 (by decide) rfl ?_
  refine jy_icmp_gt (pc' := 27) (tgt := 2059) F dL_law_24 (by decide) rfl (fun _ => ?_) (fun h => absurd h (by decide))
  refine jy_iconst (pc' := 2060) (v := 1) F dL_law_2059 (by decide) rfl ?_
  exact jy_lawret F hr hlocks (by decide) (by decide) dL_law_2060
set_option maxHeartbeats 4000000 in
set_option maxRecDepth 100000 in
theorem lc_add {p : Program} {e : Env} {s : State} {m : MethodId} {below : List Frame} {meth : Method} {c : Code} (l : Launch) {b : Nat} {sq : Nat → Int32} (C0 : lw_At p s m meth c b 6 sq) (D : va_G) (k : jK) (F : jy_F p m c code 4 s #[Value.ref b] lw_tbl R_law D vwCl (jT k)) (hN : jy_N jW s) (h0 : Nat) (a2 : Nat) (a4 : Nat) (a5 : Nat) (a6 : Nat) (a7 : Nat) (a8 : Nat) (a9 : Nat) (a10 : Nat) (t0 : Nat) (s0 : Nat) (s1 : Nat) (s2 : Nat) (s3 : Nat) (m0 : Nat) (b1 : Nat) (b2 : Nat) (b3 : Nat) (b4 : Nat) (b5 : Nat) (b6 : Nat) (b7 : Nat) (w0 : Nat) (w1 : Nat) (w2 : Nat) (w3 : Nat) (w4 : Nat) (w5 : Nat) (w6 : Nat) (w7 : Nat) (w8 : Nat) (w9 : Nat) (w10 : Nat) (w11 : Nat) (w12 : Nat) (w13 : Nat) (w14 : Nat) (w15 : Nat) (w16 : Nat) (w17 : Nat) (w18 : Nat) (w19 : Nat) (w20 : Nat) (w21 : Nat) (w22 : Nat) (fa : Nat → Int32) (ha : fa 4 = -1 ∧ ∀ j, j ≠ 4 → fa j = 0) : JJ p l e room_1 s m #[Value.ref b] below meth c (lw_Z below #[Value.ref b] s) 4 D vwCl (fun q => s.heap.size ≤ q) (va_S (fun q => s.heap.size ≤ q) s.heap) 194 18023 [(h0, .inr (10, [.int 0, .long 0, .long 1, .ref t0, .ref a2, .ref s0, .ref a4, .int 0, .ref a5, .ref a6, .ref a7, .ref a8, .ref a9, .ref a10, .int 0])), (s0, .inr (4, [.int 0, .int 0, .int 0, .int 0, .ref s1, .ref s2, .ref s3])), (m0, .inr (11, [.ref b1, .ref b2, .int 0, .long 0, .long 1, .ref b3, .ref b4, .ref b5, .ref b6, .ref b7, .int 0, .int 0, .int 0, .int 0, .int 0, .int 0, .int (-1), .int (-1), .int 0, .int 0, .ref w0, .ref w1, .ref w2, .ref w3, .ref w4, .ref w5, .ref w6, .ref w7, .ref w8, .ref w9, .int 0, .int 0, .int 0, .ref w10, .ref w11, .int 0, .ref w12, .ref w13, .ref w14, .ref w15, .ref w16, .ref w17, .ref w18, .ref w19, .ref w20, .int 0, .ref w21, .ref w22, .int 0, .int 0, .int 0])), (b1, .inl (k.2.1, 1360, .inl fa))] 710 [(3, .int 0), (2, .ref m0), (1, .ref h0), (0, .ref b)] [] := by
  obtain ⟨hx, hb, hr, hml, hown, hts, hX, hbl, hlocks, hgv⟩ := id C0
  have hA : ∀ q : Nat, s.heap.size ≤ q → (fun q : Nat => s.heap.size ≤ q) q := fun _ h => h
  have hbA : ¬ (fun q : Nat => s.heap.size ≤ q) b := Nat.not_le.mpr hbl
  refine jy_aload_n (pc' := 711) F 2 dL_law_710 rfl rfl rfl ?_
  refine jy_aload_n (pc' := 712) F 3 dL_law_711 rfl rfl rfl ?_
  refine jy_iload_n (pc' := 713) F 0 dL_law_712 rfl rfl rfl ?_
  refine jy_iconst (pc' := 714) (v := 1) F dL_law_713 (by decide) rfl ?_
  refine jy_iadd (pc' := 715) (v := 1) F dL_law_714 (by decide) rfl ?_
  refine jy_sld (pc' := 716) (v := (sq 1)) F hX hbl hbA dL_law_715 (vp_in_nI (n := 1) (by decide) (by decide)) rfl rfl ?_
  refine jy_aload_n (pc' := 717) F 3 dL_law_716 rfl rfl rfl ?_
  refine jy_iload_n (pc' := 718) F 0 dL_law_717 rfl rfl rfl ?_
  refine jy_iconst (pc' := 719) (v := 2) F dL_law_718 (by decide) rfl ?_
  refine jy_iadd (pc' := 720) (v := 2) F dL_law_719 (by decide) rfl ?_
  refine jy_sld (pc' := 721) (v := (sq 2)) F hX hbl hbA dL_law_720 (vp_in_nI (n := 2) (by decide) (by decide)) rfl rfl ?_
  refine jy_aload_n (pc' := 722) F 3 dL_law_721 rfl rfl rfl ?_
  refine jy_iload_n (pc' := 723) F 0 dL_law_722 rfl rfl rfl ?_
  refine jy_iconst (pc' := 724) (v := 3) F dL_law_723 (by decide) rfl ?_
  refine jy_iadd (pc' := 725) (v := 3) F dL_law_724 (by decide) rfl ?_
  refine jy_sld (pc' := 726) (v := (sq 3)) F hX hbl hbA dL_law_725 (vp_in_nI (n := 3) (by decide) (by decide)) rfl rfl ?_
  refine jy_aload_n (pc' := 727) F 3 dL_law_726 rfl rfl rfl ?_
  refine jy_iload_n (pc' := 728) F 0 dL_law_727 rfl rfl rfl ?_
  refine jy_iconst (pc' := 729) (v := 4) F dL_law_728 (by decide) rfl ?_
  refine jy_iadd (pc' := 730) (v := 4) F dL_law_729 (by decide) rfl ?_
  refine jy_sld (pc' := 731) (v := (sq 4)) F hX hbl hbA dL_law_730 (vp_in_nI (n := 4) (by decide) (by decide)) rfl rfl ?_
  refine jy_aload_n (pc' := 732) F 3 dL_law_731 rfl rfl rfl ?_
  refine jy_iload_n (pc' := 733) F 0 dL_law_732 rfl rfl rfl ?_
  refine jy_iconst (pc' := 734) (v := 5) F dL_law_733 (by decide) rfl ?_
  refine jy_iadd (pc' := 735) (v := 5) F dL_law_734 (by decide) rfl ?_
  refine jy_sld (pc' := 736) (v := (sq 5)) F hX hbl hbA dL_law_735 (vp_in_nI (n := 5) (by decide) (by decide)) rfl rfl ?_
  refine jy_calli (pc' := 739) (cells' := 194) (slots' := 18023) (wr := [(m0, .inr (11, [.ref b1, .ref b2, .int 0, .long 0, .long 1, .ref b3, .ref b4, .ref b5, .ref b6, .ref b7, .int 0, .int 0, .int 0, .int 0, .int 0, .int 0, .int (-1), .int (-1), .int 0, .int 0, .ref w0, .ref w1, .ref w2, .ref w3, .ref w4, .ref w5, .ref w6, .ref w7, .ref w8, .ref w9, .int 0, .int 0, .int 0, .ref w10, .ref w11, .int 0, .ref w12, .ref w13, .ref w14, .ref w15, .ref w16, .ref w17, .ref w18, .ref w19, .ref w20, .int 0, .ref w21, .ref w22, .int 0, .int 0, .int 0])), (b1, .inl (k.2.1, 1360, .inl fa))]) hA [0, 1] [2, 3] rfl rfl (by decide) (by decide) (jy_runV (As := [.int (sq 1), .int (sq 2), .int (sq 3), .int (sq 4), .int (sq 5)]) (b := h0) (q0 := 0) (ci := 10) (C := RX11) (T := TX11) (N := 15) (st := []) F hN (fun sz => c_X11_add l D k h0 a2 a4 a5 a6 a7 a8 a9 a10 t0 s0 s1 s2 s3 (sq 1) (sq 2) (sq 3) (sq 4) (sq 5) sz ) (jy_cV F gl_c_X11_add rfl hdX11_add (lm_171) (lm_1016) (lm_1017) (lm_1018) rfl rfl ⟨by decide, by decide⟩) rfl rfl [0, 1] rfl (by decide) rfl rfl (Nat.le_of_ble_eq_true rfl) dL_law_736 ⟨by decide, by decide⟩) rfl rfl rfl (fun r_3 u_1 e_2 => ?_)
  subst e_2
  refine jy_aload_n (pc' := 740) F 1 dL_law_739 rfl rfl rfl ?_
  refine jy_aload_n (pc' := 741) F 3 dL_law_740 rfl rfl rfl ?_
  refine jy_iload_n (pc' := 742) F 0 dL_law_741 rfl rfl rfl ?_
  refine jy_iconst (pc' := 743) (v := 1) F dL_law_742 (by decide) rfl ?_
  refine jy_iadd (pc' := 744) (v := 1) F dL_law_743 (by decide) rfl ?_
  refine jy_sld (pc' := 745) (v := (sq 1)) F hX hbl hbA dL_law_744 (vp_in_nI (n := 1) (by decide) (by decide)) rfl rfl ?_
  refine jy_aload_n (pc' := 746) F 3 dL_law_745 rfl rfl rfl ?_
  refine jy_iload_n (pc' := 747) F 0 dL_law_746 rfl rfl rfl ?_
  refine jy_iconst (pc' := 748) (v := 2) F dL_law_747 (by decide) rfl ?_
  refine jy_iadd (pc' := 749) (v := 2) F dL_law_748 (by decide) rfl ?_
  refine jy_sld (pc' := 750) (v := (sq 2)) F hX hbl hbA dL_law_749 (vp_in_nI (n := 2) (by decide) (by decide)) rfl rfl ?_
  refine jy_aload_n (pc' := 751) F 3 dL_law_750 rfl rfl rfl ?_
  refine jy_iload_n (pc' := 752) F 0 dL_law_751 rfl rfl rfl ?_
  refine jy_iconst (pc' := 753) (v := 3) F dL_law_752 (by decide) rfl ?_
  refine jy_iadd (pc' := 754) (v := 3) F dL_law_753 (by decide) rfl ?_
  refine jy_sld (pc' := 755) (v := (sq 3)) F hX hbl hbA dL_law_754 (vp_in_nI (n := 3) (by decide) (by decide)) rfl rfl ?_
  refine jy_aload_n (pc' := 756) F 3 dL_law_755 rfl rfl rfl ?_
  refine jy_iload_n (pc' := 757) F 0 dL_law_756 rfl rfl rfl ?_
  refine jy_iconst (pc' := 758) (v := 4) F dL_law_757 (by decide) rfl ?_
  refine jy_iadd (pc' := 759) (v := 4) F dL_law_758 (by decide) rfl ?_
  refine jy_sld (pc' := 760) (v := (sq 4)) F hX hbl hbA dL_law_759 (vp_in_nI (n := 4) (by decide) (by decide)) rfl rfl ?_
  refine jy_aload_n (pc' := 761) F 3 dL_law_760 rfl rfl rfl ?_
  refine jy_iload_n (pc' := 762) F 0 dL_law_761 rfl rfl rfl ?_
  refine jy_iconst (pc' := 763) (v := 5) F dL_law_762 (by decide) rfl ?_
  refine jy_iadd (pc' := 764) (v := 5) F dL_law_763 (by decide) rfl ?_
  refine jy_sld (pc' := 765) (v := (sq 5)) F hX hbl hbA dL_law_764 (vp_in_nI (n := 5) (by decide) (by decide)) rfl rfl ?_
  refine jy_calli (pc' := 768) (cells' := 194) (slots' := 18023) (wr := []) hA [0, 1] [] rfl rfl (by decide) (by decide) (jy_runV (As := [.int (sq 1), .int (sq 2), .int (sq 3), .int (sq 4), .int (sq 5)]) (b := m0) (q0 := 0) (ci := 11) (C := RX12) (T := TX12) (N := 51) (st := [.int (-1)]) F hN (fun sz => c_X12_add l D k m0 b1 b2 b3 b4 b5 b6 b7 w0 w1 w2 w3 w4 w5 w6 w7 w8 w9 w10 w11 w12 w13 w14 w15 w16 w17 w18 w19 w20 w21 w22 fa (sq 1) (sq 2) (sq 3) (sq 4) (sq 5) sz (ha)) (jy_cV F gl_c_X12_add rfl hdX12_add (lm_185) (lm_1959) (lm_1960) (lm_1961) rfl rfl ⟨by decide, by decide⟩) rfl rfl [0, 1] rfl (by decide) rfl rfl (Nat.le_of_ble_eq_true rfl) dL_law_765 ⟨by decide, by decide⟩) rfl rfl rfl (fun r_6 u_4 e_5 => ?_)
  subst e_5
  refine jy_icmp_eq (pc' := 771) (tgt := 2053) F dL_law_768 (by decide) rfl (fun _ => ?_) (fun h => absurd h (by decide))
  refine jy_iinc (pc' := 2056) (v := 6) (lv' := [(3, .int 6), (2, .ref m0), (1, .ref h0), (0, .ref b)]) F 0 dL_law_2053 rfl (by decide) (by decide) rfl rfl ?_
  refine jy_goto (tgt := 18) F dL_law_2056 (by decide) ?_
  refine jy_iload_n (pc' := 19) F 0 dL_law_18 rfl rfl rfl ?_
  refine jy_aload_n (pc' := 20) F 3 dL_law_19 rfl rfl rfl ?_
  refine jy_slen (pc' := 21) (v := 6) F hX hbl hbA dL_law_20 rfl rfl ?_
  refine jy_bipush (pc' := 23) (v := 6) F dL_law_21 (by decide) rfl ?_
  refine jy_isub (pc' := 24) (v := 0) F dL_law_23 (by decide) rfl ?_
  refine jy_icmp_gt (pc' := 27) (tgt := 2059) F dL_law_24 (by decide) rfl (fun _ => ?_) (fun h => absurd h (by decide))
  refine jy_iconst (pc' := 2060) (v := 1) F dL_law_2059 (by decide) rfl ?_
  exact jy_lawret F hr hlocks (by decide) (by decide) dL_law_2060
set_option maxHeartbeats 4000000 in
set_option maxRecDepth 100000 in
theorem lc_drop {p : Program} {e : Env} {s : State} {m : MethodId} {below : List Frame} {meth : Method} {c : Code} (l : Launch) {b : Nat} {sq : Nat → Int32} (C0 : lw_At p s m meth c b 6 sq) (D : va_G) (k : jK) (F : jy_F p m c code 4 s #[Value.ref b] lw_tbl R_law D vwCl (jT k)) (hN : jy_N jW s) (h0 : Nat) (a2 : Nat) (a4 : Nat) (a5 : Nat) (a6 : Nat) (a7 : Nat) (a8 : Nat) (a9 : Nat) (a10 : Nat) (t0 : Nat) (s0 : Nat) (s1 : Nat) (s2 : Nat) (s3 : Nat) (m0 : Nat) (b1 : Nat) (b2 : Nat) (b3 : Nat) (b4 : Nat) (b5 : Nat) (b6 : Nat) (b7 : Nat) (w0 : Nat) (w1 : Nat) (w2 : Nat) (w3 : Nat) (w4 : Nat) (w5 : Nat) (w6 : Nat) (w7 : Nat) (w8 : Nat) (w9 : Nat) (w10 : Nat) (w11 : Nat) (w12 : Nat) (w13 : Nat) (w14 : Nat) (w15 : Nat) (w16 : Nat) (w17 : Nat) (w18 : Nat) (w19 : Nat) (w20 : Nat) (w21 : Nat) (w22 : Nat) (fa : Nat → Int32) (ha : fa 4 = -1 ∧ ∀ j, j ≠ 4 → fa j = 0) : JJ p l e room_1 s m #[Value.ref b] below meth c (lw_Z below #[Value.ref b] s) 4 D vwCl (fun q => s.heap.size ≤ q) (va_S (fun q => s.heap.size ≤ q) s.heap) 194 18023 [(h0, .inr (10, [.int 0, .long 0, .long 1, .ref t0, .ref a2, .ref s0, .ref a4, .int 0, .ref a5, .ref a6, .ref a7, .ref a8, .ref a9, .ref a10, .int 0])), (s0, .inr (4, [.int 0, .int 0, .int 0, .int 0, .ref s1, .ref s2, .ref s3])), (m0, .inr (11, [.ref b1, .ref b2, .int 0, .long 0, .long 1, .ref b3, .ref b4, .ref b5, .ref b6, .ref b7, .int 0, .int 0, .int 0, .int 0, .int 0, .int 0, .int (-1), .int (-1), .int 0, .int 0, .ref w0, .ref w1, .ref w2, .ref w3, .ref w4, .ref w5, .ref w6, .ref w7, .ref w8, .ref w9, .int 0, .int 0, .int 0, .ref w10, .ref w11, .int 0, .ref w12, .ref w13, .ref w14, .ref w15, .ref w16, .ref w17, .ref w18, .ref w19, .ref w20, .int 0, .ref w21, .ref w22, .int 0, .int 0, .int 0])), (b1, .inl (k.2.1, 1360, .inl fa))] 773 [(3, .int 0), (2, .ref m0), (1, .ref h0), (0, .ref b)] [] := by
  obtain ⟨hx, hb, hr, hml, hown, hts, hX, hbl, hlocks, hgv⟩ := id C0
  have hA : ∀ q : Nat, s.heap.size ≤ q → (fun q : Nat => s.heap.size ≤ q) q := fun _ h => h
  have hbA : ¬ (fun q : Nat => s.heap.size ≤ q) b := Nat.not_le.mpr hbl
  refine jy_aload_n (pc' := 774) F 2 dL_law_773 rfl rfl rfl ?_
  refine jy_aload_n (pc' := 775) F 3 dL_law_774 rfl rfl rfl ?_
  refine jy_iload_n (pc' := 776) F 0 dL_law_775 rfl rfl rfl ?_
  refine jy_iconst (pc' := 777) (v := 1) F dL_law_776 (by decide) rfl ?_
  refine jy_iadd (pc' := 778) (v := 1) F dL_law_777 (by decide) rfl ?_
  refine jy_sld (pc' := 779) (v := (sq 1)) F hX hbl hbA dL_law_778 (vp_in_nI (n := 1) (by decide) (by decide)) rfl rfl ?_
  refine jy_aload_n (pc' := 780) F 3 dL_law_779 rfl rfl rfl ?_
  refine jy_iload_n (pc' := 781) F 0 dL_law_780 rfl rfl rfl ?_
  refine jy_iconst (pc' := 782) (v := 2) F dL_law_781 (by decide) rfl ?_
  refine jy_iadd (pc' := 783) (v := 2) F dL_law_782 (by decide) rfl ?_
  refine jy_sld (pc' := 784) (v := (sq 2)) F hX hbl hbA dL_law_783 (vp_in_nI (n := 2) (by decide) (by decide)) rfl rfl ?_
  refine jy_calli (pc' := 787) (cells' := 194) (slots' := 18023) (wr := [(m0, .inr (11, [.ref b1, .ref b2, .int 0, .long 0, .long 1, .ref b3, .ref b4, .ref b5, .ref b6, .ref b7, .int 0, .int 0, .int 0, .int 0, .int 0, .int 0, .int (-1), .int (-1), .int 0, .int 0, .ref w0, .ref w1, .ref w2, .ref w3, .ref w4, .ref w5, .ref w6, .ref w7, .ref w8, .ref w9, .int 0, .int 0, .int 0, .ref w10, .ref w11, .int 0, .ref w12, .ref w13, .ref w14, .ref w15, .ref w16, .ref w17, .ref w18, .ref w19, .ref w20, .int 0, .ref w21, .ref w22, .int 0, .int 0, .int 0])), (b1, .inl (k.2.1, 1360, .inl fa))]) hA [0, 1] [2, 3] rfl rfl (by decide) (by decide) (jy_runV (As := [.int (sq 1), .int (sq 2)]) (b := h0) (q0 := 0) (ci := 10) (C := RX11) (T := TX11) (N := 15) (st := []) F hN (fun sz => c_X11_drop l D k h0 a2 a4 a5 a6 a7 a8 a9 a10 t0 s0 s1 s2 s3 (sq 1) (sq 2) sz ) (jy_cV F gl_c_X11_drop rfl hdX11_drop (lm_171) (lm_1035) (lm_1036) (lm_1037) rfl rfl ⟨by decide, by decide⟩) rfl rfl [0, 1] rfl (by decide) rfl rfl (Nat.le_of_ble_eq_true rfl) dL_law_784 ⟨by decide, by decide⟩) rfl rfl rfl (fun r_3 u_1 e_2 => ?_)
  subst e_2
  refine jy_aload_n (pc' := 788) F 1 dL_law_787 rfl rfl rfl ?_
  refine jy_aload_n (pc' := 789) F 3 dL_law_788 rfl rfl rfl ?_
  refine jy_iload_n (pc' := 790) F 0 dL_law_789 rfl rfl rfl ?_
  refine jy_iconst (pc' := 791) (v := 1) F dL_law_790 (by decide) rfl ?_
  refine jy_iadd (pc' := 792) (v := 1) F dL_law_791 (by decide) rfl ?_
  refine jy_sld (pc' := 793) (v := (sq 1)) F hX hbl hbA dL_law_792 (vp_in_nI (n := 1) (by decide) (by decide)) rfl rfl ?_
  refine jy_aload_n (pc' := 794) F 3 dL_law_793 rfl rfl rfl ?_
  refine jy_iload_n (pc' := 795) F 0 dL_law_794 rfl rfl rfl ?_
  refine jy_iconst (pc' := 796) (v := 2) F dL_law_795 (by decide) rfl ?_
  refine jy_iadd (pc' := 797) (v := 2) F dL_law_796 (by decide) rfl ?_
  refine jy_sld (pc' := 798) (v := (sq 2)) F hX hbl hbA dL_law_797 (vp_in_nI (n := 2) (by decide) (by decide)) rfl rfl ?_
  refine jy_calli (pc' := 801) (cells' := 194) (slots' := 18023) (wr := []) hA [0, 1] [] rfl rfl (by decide) (by decide) (jy_runV (As := [.int (sq 1), .int (sq 2)]) (b := m0) (q0 := 0) (ci := 11) (C := RX12) (T := TX12) (N := 51) (st := [.int (-1)]) F hN (fun sz => c_X12_drop l D k m0 b1 b2 b3 b4 b5 b6 b7 w0 w1 w2 w3 w4 w5 w6 w7 w8 w9 w10 w11 w12 w13 w14 w15 w16 w17 w18 w19 w20 w21 w22 fa (sq 1) (sq 2) sz (ha)) (jy_cV F gl_c_X12_drop rfl hdX12_drop (lm_185) (lm_1983) (lm_1984) (lm_1985) rfl rfl ⟨by decide, by decide⟩) rfl rfl [0, 1] rfl (by decide) rfl rfl (Nat.le_of_ble_eq_true rfl) dL_law_798 ⟨by decide, by decide⟩) rfl rfl rfl (fun r_6 u_4 e_5 => ?_)
  subst e_5
  refine jy_icmp_eq (pc' := 804) (tgt := 2053) F dL_law_801 (by decide) rfl (fun _ => ?_) (fun h => absurd h (by decide))
  refine jy_iinc (pc' := 2056) (v := 6) (lv' := [(3, .int 6), (2, .ref m0), (1, .ref h0), (0, .ref b)]) F 0 dL_law_2053 rfl (by decide) (by decide) rfl rfl ?_
  refine jy_goto (tgt := 18) F dL_law_2056 (by decide) ?_
  refine jy_iload_n (pc' := 19) F 0 dL_law_18 rfl rfl rfl ?_
  refine jy_aload_n (pc' := 20) F 3 dL_law_19 rfl rfl rfl ?_
  refine jy_slen (pc' := 21) (v := 6) F hX hbl hbA dL_law_20 rfl rfl ?_
  refine jy_bipush (pc' := 23) (v := 6) F dL_law_21 (by decide) rfl ?_
  refine jy_isub (pc' := 24) (v := 0) F dL_law_23 (by decide) rfl ?_
  refine jy_icmp_gt (pc' := 27) (tgt := 2059) F dL_law_24 (by decide) rfl (fun _ => ?_) (fun h => absurd h (by decide))
  refine jy_iconst (pc' := 2060) (v := 1) F dL_law_2059 (by decide) rfl ?_
  exact jy_lawret F hr hlocks (by decide) (by decide) dL_law_2060
set_option maxHeartbeats 4000000 in
set_option maxRecDepth 100000 in
theorem lc_start {p : Program} {e : Env} {s : State} {m : MethodId} {below : List Frame} {meth : Method} {c : Code} (l : Launch) {b : Nat} {sq : Nat → Int32} (C0 : lw_At p s m meth c b 6 sq) (D : va_G) (k : jK) (F : jy_F p m c code 4 s #[Value.ref b] lw_tbl R_law D vwCl (jT k)) (hN : jy_N jW s) (h0 : Nat) (a2 : Nat) (a4 : Nat) (a5 : Nat) (a6 : Nat) (a7 : Nat) (a8 : Nat) (a9 : Nat) (a10 : Nat) (t0 : Nat) (s0 : Nat) (s1 : Nat) (s2 : Nat) (s3 : Nat) (m0 : Nat) (b1 : Nat) (b2 : Nat) (b3 : Nat) (b4 : Nat) (b5 : Nat) (b6 : Nat) (b7 : Nat) (w0 : Nat) (w1 : Nat) (w2 : Nat) (w3 : Nat) (w4 : Nat) (w5 : Nat) (w6 : Nat) (w7 : Nat) (w8 : Nat) (w9 : Nat) (w10 : Nat) (w11 : Nat) (w12 : Nat) (w13 : Nat) (w14 : Nat) (w15 : Nat) (w16 : Nat) (w17 : Nat) (w18 : Nat) (w19 : Nat) (w20 : Nat) (w21 : Nat) (w22 : Nat) (fa : Nat → Int32) (ha : fa 4 = -1 ∧ ∀ j, j ≠ 4 → fa j = 0) : JJ p l e room_1 s m #[Value.ref b] below meth c (lw_Z below #[Value.ref b] s) 4 D vwCl (fun q => s.heap.size ≤ q) (va_S (fun q => s.heap.size ≤ q) s.heap) 194 18023 [(h0, .inr (10, [.int 0, .long 0, .long 1, .ref t0, .ref a2, .ref s0, .ref a4, .int 0, .ref a5, .ref a6, .ref a7, .ref a8, .ref a9, .ref a10, .int 0])), (s0, .inr (4, [.int 0, .int 0, .int 0, .int 0, .ref s1, .ref s2, .ref s3])), (m0, .inr (11, [.ref b1, .ref b2, .int 0, .long 0, .long 1, .ref b3, .ref b4, .ref b5, .ref b6, .ref b7, .int 0, .int 0, .int 0, .int 0, .int 0, .int 0, .int (-1), .int (-1), .int 0, .int 0, .ref w0, .ref w1, .ref w2, .ref w3, .ref w4, .ref w5, .ref w6, .ref w7, .ref w8, .ref w9, .int 0, .int 0, .int 0, .ref w10, .ref w11, .int 0, .ref w12, .ref w13, .ref w14, .ref w15, .ref w16, .ref w17, .ref w18, .ref w19, .ref w20, .int 0, .ref w21, .ref w22, .int 0, .int 0, .int 0])), (b1, .inl (k.2.1, 1360, .inl fa))] 806 [(3, .int 0), (2, .ref m0), (1, .ref h0), (0, .ref b)] [] := by
  obtain ⟨hx, hb, hr, hml, hown, hts, hX, hbl, hlocks, hgv⟩ := id C0
  have hA : ∀ q : Nat, s.heap.size ≤ q → (fun q : Nat => s.heap.size ≤ q) q := fun _ h => h
  have hbA : ¬ (fun q : Nat => s.heap.size ≤ q) b := Nat.not_le.mpr hbl
  refine jy_aload_n (pc' := 807) F 2 dL_law_806 rfl rfl rfl ?_
  refine jy_aload_n (pc' := 808) F 3 dL_law_807 rfl rfl rfl ?_
  refine jy_iload_n (pc' := 809) F 0 dL_law_808 rfl rfl rfl ?_
  refine jy_iconst (pc' := 810) (v := 1) F dL_law_809 (by decide) rfl ?_
  refine jy_iadd (pc' := 811) (v := 1) F dL_law_810 (by decide) rfl ?_
  refine jy_sld (pc' := 812) (v := (sq 1)) F hX hbl hbA dL_law_811 (vp_in_nI (n := 1) (by decide) (by decide)) rfl rfl ?_
  refine jy_aload_n (pc' := 813) F 3 dL_law_812 rfl rfl rfl ?_
  refine jy_iload_n (pc' := 814) F 0 dL_law_813 rfl rfl rfl ?_
  refine jy_iconst (pc' := 815) (v := 2) F dL_law_814 (by decide) rfl ?_
  refine jy_iadd (pc' := 816) (v := 2) F dL_law_815 (by decide) rfl ?_
  refine jy_sld (pc' := 817) (v := (sq 2)) F hX hbl hbA dL_law_816 (vp_in_nI (n := 2) (by decide) (by decide)) rfl rfl ?_
  refine jy_aload_n (pc' := 818) F 3 dL_law_817 rfl rfl rfl ?_
  refine jy_iload_n (pc' := 819) F 0 dL_law_818 rfl rfl rfl ?_
  refine jy_iconst (pc' := 820) (v := 3) F dL_law_819 (by decide) rfl ?_
  refine jy_iadd (pc' := 821) (v := 3) F dL_law_820 (by decide) rfl ?_
  refine jy_sld (pc' := 822) (v := (sq 3)) F hX hbl hbA dL_law_821 (vp_in_nI (n := 3) (by decide) (by decide)) rfl rfl ?_
  refine jy_if_eq (pc' := 825) (tgt := 829) F dL_law_822 (by decide) rfl (fun h_1 => ?_) (fun h_1 => ?_)
  · refine jy_iconst (pc' := 830) (v := 0) F dL_law_829 (by decide) rfl ?_
    refine jy_calli (pc' := 833) (cells' := 194) (slots' := 18023) (wr := [(m0, .inr (11, [.ref b1, .ref b2, .int 0, .long 0, .long 1, .ref b3, .ref b4, .ref b5, .ref b6, .ref b7, .int 0, .int 0, .int 0, .int 0, .int 0, .int 0, .int (-1), .int (-1), .int 0, .int 0, .ref w0, .ref w1, .ref w2, .ref w3, .ref w4, .ref w5, .ref w6, .ref w7, .ref w8, .ref w9, .int 0, .int 0, .int 0, .ref w10, .ref w11, .int 0, .ref w12, .ref w13, .ref w14, .ref w15, .ref w16, .ref w17, .ref w18, .ref w19, .ref w20, .int 0, .ref w21, .ref w22, .int 0, .int 0, .int 0])), (b1, .inl (k.2.1, 1360, .inl fa))]) hA [0, 1] [2, 3] rfl rfl (by decide) (by decide) (jy_runV (As := [.int (sq 1), .int (sq 2), .int 0]) (b := h0) (q0 := 0) (ci := 10) (C := RX11) (T := TX11) (N := 15) (st := []) F hN (fun sz => c_X11_start l D k h0 a2 a4 a5 a6 a7 a8 a9 a10 t0 s0 s1 s2 s3 (sq 1) (sq 2) 0 sz ) (jy_cV F gl_c_X11_start rfl hdX11_start (lm_171) (lm_1043) (lm_1044) (lm_1045) rfl rfl ⟨by decide, by decide⟩) rfl rfl [0, 1] rfl (by decide) rfl rfl (Nat.le_of_ble_eq_true rfl) dL_law_830 ⟨by decide, by decide⟩) rfl rfl rfl (fun r_4 u_2 e_3 => ?_)
    subst e_3
    refine jy_aload_n (pc' := 834) F 1 dL_law_833 rfl rfl rfl ?_
    refine jy_aload_n (pc' := 835) F 3 dL_law_834 rfl rfl rfl ?_
    refine jy_iload_n (pc' := 836) F 0 dL_law_835 rfl rfl rfl ?_
    refine jy_iconst (pc' := 837) (v := 1) F dL_law_836 (by decide) rfl ?_
    refine jy_iadd (pc' := 838) (v := 1) F dL_law_837 (by decide) rfl ?_
    refine jy_sld (pc' := 839) (v := (sq 1)) F hX hbl hbA dL_law_838 (vp_in_nI (n := 1) (by decide) (by decide)) rfl rfl ?_
    refine jy_aload_n (pc' := 840) F 3 dL_law_839 rfl rfl rfl ?_
    refine jy_iload_n (pc' := 841) F 0 dL_law_840 rfl rfl rfl ?_
    refine jy_iconst (pc' := 842) (v := 2) F dL_law_841 (by decide) rfl ?_
    refine jy_iadd (pc' := 843) (v := 2) F dL_law_842 (by decide) rfl ?_
    refine jy_sld (pc' := 844) (v := (sq 2)) F hX hbl hbA dL_law_843 (vp_in_nI (n := 2) (by decide) (by decide)) rfl rfl ?_
    refine jy_aload_n (pc' := 845) F 3 dL_law_844 rfl rfl rfl ?_
    refine jy_iload_n (pc' := 846) F 0 dL_law_845 rfl rfl rfl ?_
    refine jy_iconst (pc' := 847) (v := 3) F dL_law_846 (by decide) rfl ?_
    refine jy_iadd (pc' := 848) (v := 3) F dL_law_847 (by decide) rfl ?_
    refine jy_sld (pc' := 849) (v := (sq 3)) F hX hbl hbA dL_law_848 (vp_in_nI (n := 3) (by decide) (by decide)) rfl rfl ?_
    refine jy_if_eq (pc' := 852) (tgt := 856) F dL_law_849 (by decide) rfl (fun h_5 => ?_) (fun h_5 => ?_)
    · refine jy_iconst (pc' := 857) (v := 0) F dL_law_856 (by decide) rfl ?_
      refine jy_calli (pc' := 860) (cells' := 194) (slots' := 18023) (wr := []) hA [0, 1] [] rfl rfl (by decide) (by decide) (jy_runV (As := [.int (sq 1), .int (sq 2), .int 0]) (b := m0) (q0 := 0) (ci := 11) (C := RX12) (T := TX12) (N := 51) (st := [.int (-1)]) F hN (fun sz => c_X12_start l D k m0 b1 b2 b3 b4 b5 b6 b7 w0 w1 w2 w3 w4 w5 w6 w7 w8 w9 w10 w11 w12 w13 w14 w15 w16 w17 w18 w19 w20 w21 w22 fa (sq 1) (sq 2) 0 sz (ha)) (jy_cV F gl_c_X12_start rfl hdX12_start (lm_185) (lm_1987) (lm_1988) (lm_1989) rfl rfl ⟨by decide, by decide⟩) rfl rfl [0, 1] rfl (by decide) rfl rfl (Nat.le_of_ble_eq_true rfl) dL_law_857 ⟨by decide, by decide⟩) rfl rfl rfl (fun r_8 u_6 e_7 => ?_)
      subst e_7
      refine jy_icmp_eq (pc' := 863) (tgt := 2053) F dL_law_860 (by decide) rfl (fun _ => ?_) (fun h => absurd h (by decide))
      refine jy_iinc (pc' := 2056) (v := 6) (lv' := [(3, .int 6), (2, .ref m0), (1, .ref h0), (0, .ref b)]) F 0 dL_law_2053 rfl (by decide) (by decide) rfl rfl ?_
      refine jy_goto (tgt := 18) F dL_law_2056 (by decide) ?_
      refine jy_iload_n (pc' := 19) F 0 dL_law_18 rfl rfl rfl ?_
      refine jy_aload_n (pc' := 20) F 3 dL_law_19 rfl rfl rfl ?_
      refine jy_slen (pc' := 21) (v := 6) F hX hbl hbA dL_law_20 rfl rfl ?_
      refine jy_bipush (pc' := 23) (v := 6) F dL_law_21 (by decide) rfl ?_
      refine jy_isub (pc' := 24) (v := 0) F dL_law_23 (by decide) rfl ?_
      refine jy_icmp_gt (pc' := 27) (tgt := 2059) F dL_law_24 (by decide) rfl (fun _ => ?_) (fun h => absurd h (by decide))
      refine jy_iconst (pc' := 2060) (v := 1) F dL_law_2059 (by decide) rfl ?_
      exact jy_lawret F hr hlocks (by decide) (by decide) dL_law_2060
    · refine jy_iconst (pc' := 853) (v := 1) F dL_law_852 (by decide) rfl ?_
      refine jy_goto (tgt := 857) F dL_law_853 (by decide) ?_
      refine jy_calli (pc' := 860) (cells' := 194) (slots' := 18023) (wr := []) hA [0, 1] [] rfl rfl (by decide) (by decide) (jy_runV (As := [.int (sq 1), .int (sq 2), .int 1]) (b := m0) (q0 := 0) (ci := 11) (C := RX12) (T := TX12) (N := 51) (st := [.int (-1)]) F hN (fun sz => c_X12_start l D k m0 b1 b2 b3 b4 b5 b6 b7 w0 w1 w2 w3 w4 w5 w6 w7 w8 w9 w10 w11 w12 w13 w14 w15 w16 w17 w18 w19 w20 w21 w22 fa (sq 1) (sq 2) 1 sz (ha)) (jy_cV F gl_c_X12_start rfl hdX12_start (lm_185) (lm_1987) (lm_1988) (lm_1989) rfl rfl ⟨by decide, by decide⟩) rfl rfl [0, 1] rfl (by decide) rfl rfl (Nat.le_of_ble_eq_true rfl) dL_law_857 ⟨by decide, by decide⟩) rfl rfl rfl (fun r_13 u_11 e_12 => ?_)
      subst e_12
      refine jy_icmp_eq (pc' := 863) (tgt := 2053) F dL_law_860 (by decide) rfl (fun _ => ?_) (fun h => absurd h (by decide))
      refine jy_iinc (pc' := 2056) (v := 6) (lv' := [(3, .int 6), (2, .ref m0), (1, .ref h0), (0, .ref b)]) F 0 dL_law_2053 rfl (by decide) (by decide) rfl rfl ?_
      refine jy_goto (tgt := 18) F dL_law_2056 (by decide) ?_
      refine jy_iload_n (pc' := 19) F 0 dL_law_18 rfl rfl rfl ?_
      refine jy_aload_n (pc' := 20) F 3 dL_law_19 rfl rfl rfl ?_
      refine jy_slen (pc' := 21) (v := 6) F hX hbl hbA dL_law_20 rfl rfl ?_
      refine jy_bipush (pc' := 23) (v := 6) F dL_law_21 (by decide) rfl ?_
      refine jy_isub (pc' := 24) (v := 0) F dL_law_23 (by decide) rfl ?_
      refine jy_icmp_gt (pc' := 27) (tgt := 2059) F dL_law_24 (by decide) rfl (fun _ => ?_) (fun h => absurd h (by decide))
      refine jy_iconst (pc' := 2060) (v := 1) F dL_law_2059 (by decide) rfl ?_
      exact jy_lawret F hr hlocks (by decide) (by decide) dL_law_2060
  · refine jy_iconst (pc' := 826) (v := 1) F dL_law_825 (by decide) rfl ?_
    refine jy_goto (tgt := 830) F dL_law_826 (by decide) ?_
    refine jy_calli (pc' := 833) (cells' := 194) (slots' := 18023) (wr := [(m0, .inr (11, [.ref b1, .ref b2, .int 0, .long 0, .long 1, .ref b3, .ref b4, .ref b5, .ref b6, .ref b7, .int 0, .int 0, .int 0, .int 0, .int 0, .int 0, .int (-1), .int (-1), .int 0, .int 0, .ref w0, .ref w1, .ref w2, .ref w3, .ref w4, .ref w5, .ref w6, .ref w7, .ref w8, .ref w9, .int 0, .int 0, .int 0, .ref w10, .ref w11, .int 0, .ref w12, .ref w13, .ref w14, .ref w15, .ref w16, .ref w17, .ref w18, .ref w19, .ref w20, .int 0, .ref w21, .ref w22, .int 0, .int 0, .int 0])), (b1, .inl (k.2.1, 1360, .inl fa))]) hA [0, 1] [2, 3] rfl rfl (by decide) (by decide) (jy_runV (As := [.int (sq 1), .int (sq 2), .int 1]) (b := h0) (q0 := 0) (ci := 10) (C := RX11) (T := TX11) (N := 15) (st := []) F hN (fun sz => c_X11_start l D k h0 a2 a4 a5 a6 a7 a8 a9 a10 t0 s0 s1 s2 s3 (sq 1) (sq 2) 1 sz ) (jy_cV F gl_c_X11_start rfl hdX11_start (lm_171) (lm_1043) (lm_1044) (lm_1045) rfl rfl ⟨by decide, by decide⟩) rfl rfl [0, 1] rfl (by decide) rfl rfl (Nat.le_of_ble_eq_true rfl) dL_law_830 ⟨by decide, by decide⟩) rfl rfl rfl (fun r_18 u_16 e_17 => ?_)
    subst e_17
    refine jy_aload_n (pc' := 834) F 1 dL_law_833 rfl rfl rfl ?_
    refine jy_aload_n (pc' := 835) F 3 dL_law_834 rfl rfl rfl ?_
    refine jy_iload_n (pc' := 836) F 0 dL_law_835 rfl rfl rfl ?_
    refine jy_iconst (pc' := 837) (v := 1) F dL_law_836 (by decide) rfl ?_
    refine jy_iadd (pc' := 838) (v := 1) F dL_law_837 (by decide) rfl ?_
    refine jy_sld (pc' := 839) (v := (sq 1)) F hX hbl hbA dL_law_838 (vp_in_nI (n := 1) (by decide) (by decide)) rfl rfl ?_
    refine jy_aload_n (pc' := 840) F 3 dL_law_839 rfl rfl rfl ?_
    refine jy_iload_n (pc' := 841) F 0 dL_law_840 rfl rfl rfl ?_
    refine jy_iconst (pc' := 842) (v := 2) F dL_law_841 (by decide) rfl ?_
    refine jy_iadd (pc' := 843) (v := 2) F dL_law_842 (by decide) rfl ?_
    refine jy_sld (pc' := 844) (v := (sq 2)) F hX hbl hbA dL_law_843 (vp_in_nI (n := 2) (by decide) (by decide)) rfl rfl ?_
    refine jy_aload_n (pc' := 845) F 3 dL_law_844 rfl rfl rfl ?_
    refine jy_iload_n (pc' := 846) F 0 dL_law_845 rfl rfl rfl ?_
    refine jy_iconst (pc' := 847) (v := 3) F dL_law_846 (by decide) rfl ?_
    refine jy_iadd (pc' := 848) (v := 3) F dL_law_847 (by decide) rfl ?_
    refine jy_sld (pc' := 849) (v := (sq 3)) F hX hbl hbA dL_law_848 (vp_in_nI (n := 3) (by decide) (by decide)) rfl rfl ?_
    refine jy_if_eq (pc' := 852) (tgt := 856) F dL_law_849 (by decide) rfl (fun h_19 => ?_) (fun h_19 => ?_)
    · refine jy_iconst (pc' := 857) (v := 0) F dL_law_856 (by decide) rfl ?_
      refine jy_calli (pc' := 860) (cells' := 194) (slots' := 18023) (wr := []) hA [0, 1] [] rfl rfl (by decide) (by decide) (jy_runV (As := [.int (sq 1), .int (sq 2), .int 0]) (b := m0) (q0 := 0) (ci := 11) (C := RX12) (T := TX12) (N := 51) (st := [.int (-1)]) F hN (fun sz => c_X12_start l D k m0 b1 b2 b3 b4 b5 b6 b7 w0 w1 w2 w3 w4 w5 w6 w7 w8 w9 w10 w11 w12 w13 w14 w15 w16 w17 w18 w19 w20 w21 w22 fa (sq 1) (sq 2) 0 sz (ha)) (jy_cV F gl_c_X12_start rfl hdX12_start (lm_185) (lm_1987) (lm_1988) (lm_1989) rfl rfl ⟨by decide, by decide⟩) rfl rfl [0, 1] rfl (by decide) rfl rfl (Nat.le_of_ble_eq_true rfl) dL_law_857 ⟨by decide, by decide⟩) rfl rfl rfl (fun r_22 u_20 e_21 => ?_)
      subst e_21
      refine jy_icmp_eq (pc' := 863) (tgt := 2053) F dL_law_860 (by decide) rfl (fun _ => ?_) (fun h => absurd h (by decide))
      refine jy_iinc (pc' := 2056) (v := 6) (lv' := [(3, .int 6), (2, .ref m0), (1, .ref h0), (0, .ref b)]) F 0 dL_law_2053 rfl (by decide) (by decide) rfl rfl ?_
      refine jy_goto (tgt := 18) F dL_law_2056 (by decide) ?_
      refine jy_iload_n (pc' := 19) F 0 dL_law_18 rfl rfl rfl ?_
      refine jy_aload_n (pc' := 20) F 3 dL_law_19 rfl rfl rfl ?_
      refine jy_slen (pc' := 21) (v := 6) F hX hbl hbA dL_law_20 rfl rfl ?_
      refine jy_bipush (pc' := 23) (v := 6) F dL_law_21 (by decide) rfl ?_
      refine jy_isub (pc' := 24) (v := 0) F dL_law_23 (by decide) rfl ?_
      refine jy_icmp_gt (pc' := 27) (tgt := 2059) F dL_law_24 (by decide) rfl (fun _ => ?_) (fun h => absurd h (by decide))
      refine jy_iconst (pc' := 2060) (v := 1) F dL_law_2059 (by decide) rfl ?_
      exact jy_lawret F hr hlocks (by decide) (by decide) dL_law_2060
    · refine jy_iconst (pc' := 853) (v := 1) F dL_law_852 (by decide) rfl ?_
      refine jy_goto (tgt := 857) F dL_law_853 (by decide) ?_
      refine jy_calli (pc' := 860) (cells' := 194) (slots' := 18023) (wr := []) hA [0, 1] [] rfl rfl (by decide) (by decide) (jy_runV (As := [.int (sq 1), .int (sq 2), .int 1]) (b := m0) (q0 := 0) (ci := 11) (C := RX12) (T := TX12) (N := 51) (st := [.int (-1)]) F hN (fun sz => c_X12_start l D k m0 b1 b2 b3 b4 b5 b6 b7 w0 w1 w2 w3 w4 w5 w6 w7 w8 w9 w10 w11 w12 w13 w14 w15 w16 w17 w18 w19 w20 w21 w22 fa (sq 1) (sq 2) 1 sz (ha)) (jy_cV F gl_c_X12_start rfl hdX12_start (lm_185) (lm_1987) (lm_1988) (lm_1989) rfl rfl ⟨by decide, by decide⟩) rfl rfl [0, 1] rfl (by decide) rfl rfl (Nat.le_of_ble_eq_true rfl) dL_law_857 ⟨by decide, by decide⟩) rfl rfl rfl (fun r_27 u_25 e_26 => ?_)
      subst e_26
      refine jy_icmp_eq (pc' := 863) (tgt := 2053) F dL_law_860 (by decide) rfl (fun _ => ?_) (fun h => absurd h (by decide))
      refine jy_iinc (pc' := 2056) (v := 6) (lv' := [(3, .int 6), (2, .ref m0), (1, .ref h0), (0, .ref b)]) F 0 dL_law_2053 rfl (by decide) (by decide) rfl rfl ?_
      refine jy_goto (tgt := 18) F dL_law_2056 (by decide) ?_
      refine jy_iload_n (pc' := 19) F 0 dL_law_18 rfl rfl rfl ?_
      refine jy_aload_n (pc' := 20) F 3 dL_law_19 rfl rfl rfl ?_
      refine jy_slen (pc' := 21) (v := 6) F hX hbl hbA dL_law_20 rfl rfl ?_
      refine jy_bipush (pc' := 23) (v := 6) F dL_law_21 (by decide) rfl ?_
      refine jy_isub (pc' := 24) (v := 0) F dL_law_23 (by decide) rfl ?_
      refine jy_icmp_gt (pc' := 27) (tgt := 2059) F dL_law_24 (by decide) rfl (fun _ => ?_) (fun h => absurd h (by decide))
      refine jy_iconst (pc' := 2060) (v := 1) F dL_law_2059 (by decide) rfl ?_
      exact jy_lawret F hr hlocks (by decide) (by decide) dL_law_2060
set_option maxHeartbeats 4000000 in
set_option maxRecDepth 100000 in
theorem lc_accept {p : Program} {e : Env} {s : State} {m : MethodId} {below : List Frame} {meth : Method} {c : Code} (l : Launch) {b : Nat} {sq : Nat → Int32} (C0 : lw_At p s m meth c b 6 sq) (D : va_G) (k : jK) (F : jy_F p m c code 4 s #[Value.ref b] lw_tbl R_law D vwCl (jT k)) (hN : jy_N jW s) (h0 : Nat) (a2 : Nat) (a4 : Nat) (a5 : Nat) (a6 : Nat) (a7 : Nat) (a8 : Nat) (a9 : Nat) (a10 : Nat) (t0 : Nat) (s0 : Nat) (s1 : Nat) (s2 : Nat) (s3 : Nat) (m0 : Nat) (b1 : Nat) (b2 : Nat) (b3 : Nat) (b4 : Nat) (b5 : Nat) (b6 : Nat) (b7 : Nat) (w0 : Nat) (w1 : Nat) (w2 : Nat) (w3 : Nat) (w4 : Nat) (w5 : Nat) (w6 : Nat) (w7 : Nat) (w8 : Nat) (w9 : Nat) (w10 : Nat) (w11 : Nat) (w12 : Nat) (w13 : Nat) (w14 : Nat) (w15 : Nat) (w16 : Nat) (w17 : Nat) (w18 : Nat) (w19 : Nat) (w20 : Nat) (w21 : Nat) (w22 : Nat) (fa : Nat → Int32) (ha : fa 4 = -1 ∧ ∀ j, j ≠ 4 → fa j = 0) : JJ p l e room_1 s m #[Value.ref b] below meth c (lw_Z below #[Value.ref b] s) 4 D vwCl (fun q => s.heap.size ≤ q) (va_S (fun q => s.heap.size ≤ q) s.heap) 194 18023 [(h0, .inr (10, [.int 0, .long 0, .long 1, .ref t0, .ref a2, .ref s0, .ref a4, .int 0, .ref a5, .ref a6, .ref a7, .ref a8, .ref a9, .ref a10, .int 0])), (s0, .inr (4, [.int 0, .int 0, .int 0, .int 0, .ref s1, .ref s2, .ref s3])), (m0, .inr (11, [.ref b1, .ref b2, .int 0, .long 0, .long 1, .ref b3, .ref b4, .ref b5, .ref b6, .ref b7, .int 0, .int 0, .int 0, .int 0, .int 0, .int 0, .int (-1), .int (-1), .int 0, .int 0, .ref w0, .ref w1, .ref w2, .ref w3, .ref w4, .ref w5, .ref w6, .ref w7, .ref w8, .ref w9, .int 0, .int 0, .int 0, .ref w10, .ref w11, .int 0, .ref w12, .ref w13, .ref w14, .ref w15, .ref w16, .ref w17, .ref w18, .ref w19, .ref w20, .int 0, .ref w21, .ref w22, .int 0, .int 0, .int 0])), (b1, .inl (k.2.1, 1360, .inl fa))] 865 [(3, .int 0), (2, .ref m0), (1, .ref h0), (0, .ref b)] [] := by
  obtain ⟨hx, hb, hr, hml, hown, hts, hX, hbl, hlocks, hgv⟩ := id C0
  have hA : ∀ q : Nat, s.heap.size ≤ q → (fun q : Nat => s.heap.size ≤ q) q := fun _ h => h
  have hbA : ¬ (fun q : Nat => s.heap.size ≤ q) b := Nat.not_le.mpr hbl
  refine jy_aload_n (pc' := 866) F 2 dL_law_865 rfl rfl rfl ?_
  refine jy_aload_n (pc' := 867) F 3 dL_law_866 rfl rfl rfl ?_
  refine jy_iload_n (pc' := 868) F 0 dL_law_867 rfl rfl rfl ?_
  refine jy_iconst (pc' := 869) (v := 1) F dL_law_868 (by decide) rfl ?_
  refine jy_iadd (pc' := 870) (v := 1) F dL_law_869 (by decide) rfl ?_
  refine jy_sld (pc' := 871) (v := (sq 1)) F hX hbl hbA dL_law_870 (vp_in_nI (n := 1) (by decide) (by decide)) rfl rfl ?_
  refine jy_aload_n (pc' := 872) F 3 dL_law_871 rfl rfl rfl ?_
  refine jy_iload_n (pc' := 873) F 0 dL_law_872 rfl rfl rfl ?_
  refine jy_iconst (pc' := 874) (v := 2) F dL_law_873 (by decide) rfl ?_
  refine jy_iadd (pc' := 875) (v := 2) F dL_law_874 (by decide) rfl ?_
  refine jy_sld (pc' := 876) (v := (sq 2)) F hX hbl hbA dL_law_875 (vp_in_nI (n := 2) (by decide) (by decide)) rfl rfl ?_
  refine jy_aload_n (pc' := 877) F 3 dL_law_876 rfl rfl rfl ?_
  refine jy_iload_n (pc' := 878) F 0 dL_law_877 rfl rfl rfl ?_
  refine jy_iconst (pc' := 879) (v := 3) F dL_law_878 (by decide) rfl ?_
  refine jy_iadd (pc' := 880) (v := 3) F dL_law_879 (by decide) rfl ?_
  refine jy_sld (pc' := 881) (v := (sq 3)) F hX hbl hbA dL_law_880 (vp_in_nI (n := 3) (by decide) (by decide)) rfl rfl ?_
  refine jy_if_eq (pc' := 884) (tgt := 888) F dL_law_881 (by decide) rfl (fun h_1 => ?_) (fun h_1 => ?_)
  · refine jy_iconst (pc' := 889) (v := 0) F dL_law_888 (by decide) rfl ?_
    refine jy_calli (pc' := 892) (cells' := 194) (slots' := 18023) (wr := [(m0, .inr (11, [.ref b1, .ref b2, .int 0, .long 0, .long 1, .ref b3, .ref b4, .ref b5, .ref b6, .ref b7, .int 0, .int 0, .int 0, .int 0, .int 0, .int 0, .int (-1), .int (-1), .int 0, .int 0, .ref w0, .ref w1, .ref w2, .ref w3, .ref w4, .ref w5, .ref w6, .ref w7, .ref w8, .ref w9, .int 0, .int 0, .int 0, .ref w10, .ref w11, .int 0, .ref w12, .ref w13, .ref w14, .ref w15, .ref w16, .ref w17, .ref w18, .ref w19, .ref w20, .int 0, .ref w21, .ref w22, .int 0, .int 0, .int 0])), (b1, .inl (k.2.1, 1360, .inl fa))]) hA [0, 1] [2, 3] rfl rfl (by decide) (by decide) (jy_runV (As := [.int (sq 1), .int (sq 2), .int 0]) (b := h0) (q0 := 0) (ci := 10) (C := RX11) (T := TX11) (N := 15) (st := []) F hN (fun sz => c_X11_accept l D k h0 a2 a4 a5 a6 a7 a8 a9 a10 t0 s0 s1 s2 s3 (sq 1) (sq 2) 0 sz ) (jy_cV F gl_c_X11_accept rfl hdX11_accept (lm_171) (lm_1052) (lm_1053) (lm_1054) rfl rfl ⟨by decide, by decide⟩) rfl rfl [0, 1] rfl (by decide) rfl rfl (Nat.le_of_ble_eq_true rfl) dL_law_889 ⟨by decide, by decide⟩) rfl rfl rfl (fun r_4 u_2 e_3 => ?_)
    subst e_3
    refine jy_aload_n (pc' := 893) F 1 dL_law_892 rfl rfl rfl ?_
    refine jy_aload_n (pc' := 894) F 3 dL_law_893 rfl rfl rfl ?_
    refine jy_iload_n (pc' := 895) F 0 dL_law_894 rfl rfl rfl ?_
    refine jy_iconst (pc' := 896) (v := 1) F dL_law_895 (by decide) rfl ?_
    refine jy_iadd (pc' := 897) (v := 1) F dL_law_896 (by decide) rfl ?_
    refine jy_sld (pc' := 898) (v := (sq 1)) F hX hbl hbA dL_law_897 (vp_in_nI (n := 1) (by decide) (by decide)) rfl rfl ?_
    refine jy_aload_n (pc' := 899) F 3 dL_law_898 rfl rfl rfl ?_
    refine jy_iload_n (pc' := 900) F 0 dL_law_899 rfl rfl rfl ?_
    refine jy_iconst (pc' := 901) (v := 2) F dL_law_900 (by decide) rfl ?_
    refine jy_iadd (pc' := 902) (v := 2) F dL_law_901 (by decide) rfl ?_
    refine jy_sld (pc' := 903) (v := (sq 2)) F hX hbl hbA dL_law_902 (vp_in_nI (n := 2) (by decide) (by decide)) rfl rfl ?_
    refine jy_aload_n (pc' := 904) F 3 dL_law_903 rfl rfl rfl ?_
    refine jy_iload_n (pc' := 905) F 0 dL_law_904 rfl rfl rfl ?_
    refine jy_iconst (pc' := 906) (v := 3) F dL_law_905 (by decide) rfl ?_
    refine jy_iadd (pc' := 907) (v := 3) F dL_law_906 (by decide) rfl ?_
    refine jy_sld (pc' := 908) (v := (sq 3)) F hX hbl hbA dL_law_907 (vp_in_nI (n := 3) (by decide) (by decide)) rfl rfl ?_
    refine jy_if_eq (pc' := 911) (tgt := 915) F dL_law_908 (by decide) rfl (fun h_5 => ?_) (fun h_5 => ?_)
    · refine jy_iconst (pc' := 916) (v := 0) F dL_law_915 (by decide) rfl ?_
      refine jy_calli (pc' := 919) (cells' := 194) (slots' := 18023) (wr := []) hA [0, 1] [] rfl rfl (by decide) (by decide) (jy_runV (As := [.int (sq 1), .int (sq 2), .int 0]) (b := m0) (q0 := 0) (ci := 11) (C := RX12) (T := TX12) (N := 51) (st := [.int (-1)]) F hN (fun sz => c_X12_accept l D k m0 b1 b2 b3 b4 b5 b6 b7 w0 w1 w2 w3 w4 w5 w6 w7 w8 w9 w10 w11 w12 w13 w14 w15 w16 w17 w18 w19 w20 w21 w22 fa (sq 1) (sq 2) 0 sz (ha)) (jy_cV F gl_c_X12_accept rfl hdX12_accept (lm_185) (lm_1995) (lm_1996) (lm_1997) rfl rfl ⟨by decide, by decide⟩) rfl rfl [0, 1] rfl (by decide) rfl rfl (Nat.le_of_ble_eq_true rfl) dL_law_916 ⟨by decide, by decide⟩) rfl rfl rfl (fun r_8 u_6 e_7 => ?_)
      subst e_7
      refine jy_icmp_eq (pc' := 922) (tgt := 2053) F dL_law_919 (by decide) rfl (fun _ => ?_) (fun h => absurd h (by decide))
      refine jy_iinc (pc' := 2056) (v := 6) (lv' := [(3, .int 6), (2, .ref m0), (1, .ref h0), (0, .ref b)]) F 0 dL_law_2053 rfl (by decide) (by decide) rfl rfl ?_
      refine jy_goto (tgt := 18) F dL_law_2056 (by decide) ?_
      refine jy_iload_n (pc' := 19) F 0 dL_law_18 rfl rfl rfl ?_
      refine jy_aload_n (pc' := 20) F 3 dL_law_19 rfl rfl rfl ?_
      refine jy_slen (pc' := 21) (v := 6) F hX hbl hbA dL_law_20 rfl rfl ?_
      refine jy_bipush (pc' := 23) (v := 6) F dL_law_21 (by decide) rfl ?_
      refine jy_isub (pc' := 24) (v := 0) F dL_law_23 (by decide) rfl ?_
      refine jy_icmp_gt (pc' := 27) (tgt := 2059) F dL_law_24 (by decide) rfl (fun _ => ?_) (fun h => absurd h (by decide))
      refine jy_iconst (pc' := 2060) (v := 1) F dL_law_2059 (by decide) rfl ?_
      exact jy_lawret F hr hlocks (by decide) (by decide) dL_law_2060
    · refine jy_iconst (pc' := 912) (v := 1) F dL_law_911 (by decide) rfl ?_
      refine jy_goto (tgt := 916) F dL_law_912 (by decide) ?_
      refine jy_calli (pc' := 919) (cells' := 194) (slots' := 18023) (wr := []) hA [0, 1] [] rfl rfl (by decide) (by decide) (jy_runV (As := [.int (sq 1), .int (sq 2), .int 1]) (b := m0) (q0 := 0) (ci := 11) (C := RX12) (T := TX12) (N := 51) (st := [.int (-1)]) F hN (fun sz => c_X12_accept l D k m0 b1 b2 b3 b4 b5 b6 b7 w0 w1 w2 w3 w4 w5 w6 w7 w8 w9 w10 w11 w12 w13 w14 w15 w16 w17 w18 w19 w20 w21 w22 fa (sq 1) (sq 2) 1 sz (ha)) (jy_cV F gl_c_X12_accept rfl hdX12_accept (lm_185) (lm_1995) (lm_1996) (lm_1997) rfl rfl ⟨by decide, by decide⟩) rfl rfl [0, 1] rfl (by decide) rfl rfl (Nat.le_of_ble_eq_true rfl) dL_law_916 ⟨by decide, by decide⟩) rfl rfl rfl (fun r_13 u_11 e_12 => ?_)
      subst e_12
      refine jy_icmp_eq (pc' := 922) (tgt := 2053) F dL_law_919 (by decide) rfl (fun _ => ?_) (fun h => absurd h (by decide))
      refine jy_iinc (pc' := 2056) (v := 6) (lv' := [(3, .int 6), (2, .ref m0), (1, .ref h0), (0, .ref b)]) F 0 dL_law_2053 rfl (by decide) (by decide) rfl rfl ?_
      refine jy_goto (tgt := 18) F dL_law_2056 (by decide) ?_
      refine jy_iload_n (pc' := 19) F 0 dL_law_18 rfl rfl rfl ?_
      refine jy_aload_n (pc' := 20) F 3 dL_law_19 rfl rfl rfl ?_
      refine jy_slen (pc' := 21) (v := 6) F hX hbl hbA dL_law_20 rfl rfl ?_
      refine jy_bipush (pc' := 23) (v := 6) F dL_law_21 (by decide) rfl ?_
      refine jy_isub (pc' := 24) (v := 0) F dL_law_23 (by decide) rfl ?_
      refine jy_icmp_gt (pc' := 27) (tgt := 2059) F dL_law_24 (by decide) rfl (fun _ => ?_) (fun h => absurd h (by decide))
      refine jy_iconst (pc' := 2060) (v := 1) F dL_law_2059 (by decide) rfl ?_
      exact jy_lawret F hr hlocks (by decide) (by decide) dL_law_2060
  · refine jy_iconst (pc' := 885) (v := 1) F dL_law_884 (by decide) rfl ?_
    refine jy_goto (tgt := 889) F dL_law_885 (by decide) ?_
    refine jy_calli (pc' := 892) (cells' := 194) (slots' := 18023) (wr := [(m0, .inr (11, [.ref b1, .ref b2, .int 0, .long 0, .long 1, .ref b3, .ref b4, .ref b5, .ref b6, .ref b7, .int 0, .int 0, .int 0, .int 0, .int 0, .int 0, .int (-1), .int (-1), .int 0, .int 0, .ref w0, .ref w1, .ref w2, .ref w3, .ref w4, .ref w5, .ref w6, .ref w7, .ref w8, .ref w9, .int 0, .int 0, .int 0, .ref w10, .ref w11, .int 0, .ref w12, .ref w13, .ref w14, .ref w15, .ref w16, .ref w17, .ref w18, .ref w19, .ref w20, .int 0, .ref w21, .ref w22, .int 0, .int 0, .int 0])), (b1, .inl (k.2.1, 1360, .inl fa))]) hA [0, 1] [2, 3] rfl rfl (by decide) (by decide) (jy_runV (As := [.int (sq 1), .int (sq 2), .int 1]) (b := h0) (q0 := 0) (ci := 10) (C := RX11) (T := TX11) (N := 15) (st := []) F hN (fun sz => c_X11_accept l D k h0 a2 a4 a5 a6 a7 a8 a9 a10 t0 s0 s1 s2 s3 (sq 1) (sq 2) 1 sz ) (jy_cV F gl_c_X11_accept rfl hdX11_accept (lm_171) (lm_1052) (lm_1053) (lm_1054) rfl rfl ⟨by decide, by decide⟩) rfl rfl [0, 1] rfl (by decide) rfl rfl (Nat.le_of_ble_eq_true rfl) dL_law_889 ⟨by decide, by decide⟩) rfl rfl rfl (fun r_18 u_16 e_17 => ?_)
    subst e_17
    refine jy_aload_n (pc' := 893) F 1 dL_law_892 rfl rfl rfl ?_
    refine jy_aload_n (pc' := 894) F 3 dL_law_893 rfl rfl rfl ?_
    refine jy_iload_n (pc' := 895) F 0 dL_law_894 rfl rfl rfl ?_
    refine jy_iconst (pc' := 896) (v := 1) F dL_law_895 (by decide) rfl ?_
    refine jy_iadd (pc' := 897) (v := 1) F dL_law_896 (by decide) rfl ?_
    refine jy_sld (pc' := 898) (v := (sq 1)) F hX hbl hbA dL_law_897 (vp_in_nI (n := 1) (by decide) (by decide)) rfl rfl ?_
    refine jy_aload_n (pc' := 899) F 3 dL_law_898 rfl rfl rfl ?_
    refine jy_iload_n (pc' := 900) F 0 dL_law_899 rfl rfl rfl ?_
    refine jy_iconst (pc' := 901) (v := 2) F dL_law_900 (by decide) rfl ?_
    refine jy_iadd (pc' := 902) (v := 2) F dL_law_901 (by decide) rfl ?_
    refine jy_sld (pc' := 903) (v := (sq 2)) F hX hbl hbA dL_law_902 (vp_in_nI (n := 2) (by decide) (by decide)) rfl rfl ?_
    refine jy_aload_n (pc' := 904) F 3 dL_law_903 rfl rfl rfl ?_
    refine jy_iload_n (pc' := 905) F 0 dL_law_904 rfl rfl rfl ?_
    refine jy_iconst (pc' := 906) (v := 3) F dL_law_905 (by decide) rfl ?_
    refine jy_iadd (pc' := 907) (v := 3) F dL_law_906 (by decide) rfl ?_
    refine jy_sld (pc' := 908) (v := (sq 3)) F hX hbl hbA dL_law_907 (vp_in_nI (n := 3) (by decide) (by decide)) rfl rfl ?_
    refine jy_if_eq (pc' := 911) (tgt := 915) F dL_law_908 (by decide) rfl (fun h_19 => ?_) (fun h_19 => ?_)
    · refine jy_iconst (pc' := 916) (v := 0) F dL_law_915 (by decide) rfl ?_
      refine jy_calli (pc' := 919) (cells' := 194) (slots' := 18023) (wr := []) hA [0, 1] [] rfl rfl (by decide) (by decide) (jy_runV (As := [.int (sq 1), .int (sq 2), .int 0]) (b := m0) (q0 := 0) (ci := 11) (C := RX12) (T := TX12) (N := 51) (st := [.int (-1)]) F hN (fun sz => c_X12_accept l D k m0 b1 b2 b3 b4 b5 b6 b7 w0 w1 w2 w3 w4 w5 w6 w7 w8 w9 w10 w11 w12 w13 w14 w15 w16 w17 w18 w19 w20 w21 w22 fa (sq 1) (sq 2) 0 sz (ha)) (jy_cV F gl_c_X12_accept rfl hdX12_accept (lm_185) (lm_1995) (lm_1996) (lm_1997) rfl rfl ⟨by decide, by decide⟩) rfl rfl [0, 1] rfl (by decide) rfl rfl (Nat.le_of_ble_eq_true rfl) dL_law_916 ⟨by decide, by decide⟩) rfl rfl rfl (fun r_22 u_20 e_21 => ?_)
      subst e_21
      refine jy_icmp_eq (pc' := 922) (tgt := 2053) F dL_law_919 (by decide) rfl (fun _ => ?_) (fun h => absurd h (by decide))
      refine jy_iinc (pc' := 2056) (v := 6) (lv' := [(3, .int 6), (2, .ref m0), (1, .ref h0), (0, .ref b)]) F 0 dL_law_2053 rfl (by decide) (by decide) rfl rfl ?_
      refine jy_goto (tgt := 18) F dL_law_2056 (by decide) ?_
      refine jy_iload_n (pc' := 19) F 0 dL_law_18 rfl rfl rfl ?_
      refine jy_aload_n (pc' := 20) F 3 dL_law_19 rfl rfl rfl ?_
      refine jy_slen (pc' := 21) (v := 6) F hX hbl hbA dL_law_20 rfl rfl ?_
      refine jy_bipush (pc' := 23) (v := 6) F dL_law_21 (by decide) rfl ?_
      refine jy_isub (pc' := 24) (v := 0) F dL_law_23 (by decide) rfl ?_
      refine jy_icmp_gt (pc' := 27) (tgt := 2059) F dL_law_24 (by decide) rfl (fun _ => ?_) (fun h => absurd h (by decide))
      refine jy_iconst (pc' := 2060) (v := 1) F dL_law_2059 (by decide) rfl ?_
      exact jy_lawret F hr hlocks (by decide) (by decide) dL_law_2060
    · refine jy_iconst (pc' := 912) (v := 1) F dL_law_911 (by decide) rfl ?_
      refine jy_goto (tgt := 916) F dL_law_912 (by decide) ?_
      refine jy_calli (pc' := 919) (cells' := 194) (slots' := 18023) (wr := []) hA [0, 1] [] rfl rfl (by decide) (by decide) (jy_runV (As := [.int (sq 1), .int (sq 2), .int 1]) (b := m0) (q0 := 0) (ci := 11) (C := RX12) (T := TX12) (N := 51) (st := [.int (-1)]) F hN (fun sz => c_X12_accept l D k m0 b1 b2 b3 b4 b5 b6 b7 w0 w1 w2 w3 w4 w5 w6 w7 w8 w9 w10 w11 w12 w13 w14 w15 w16 w17 w18 w19 w20 w21 w22 fa (sq 1) (sq 2) 1 sz (ha)) (jy_cV F gl_c_X12_accept rfl hdX12_accept (lm_185) (lm_1995) (lm_1996) (lm_1997) rfl rfl ⟨by decide, by decide⟩) rfl rfl [0, 1] rfl (by decide) rfl rfl (Nat.le_of_ble_eq_true rfl) dL_law_916 ⟨by decide, by decide⟩) rfl rfl rfl (fun r_27 u_25 e_26 => ?_)
      subst e_26
      refine jy_icmp_eq (pc' := 922) (tgt := 2053) F dL_law_919 (by decide) rfl (fun _ => ?_) (fun h => absurd h (by decide))
      refine jy_iinc (pc' := 2056) (v := 6) (lv' := [(3, .int 6), (2, .ref m0), (1, .ref h0), (0, .ref b)]) F 0 dL_law_2053 rfl (by decide) (by decide) rfl rfl ?_
      refine jy_goto (tgt := 18) F dL_law_2056 (by decide) ?_
      refine jy_iload_n (pc' := 19) F 0 dL_law_18 rfl rfl rfl ?_
      refine jy_aload_n (pc' := 20) F 3 dL_law_19 rfl rfl rfl ?_
      refine jy_slen (pc' := 21) (v := 6) F hX hbl hbA dL_law_20 rfl rfl ?_
      refine jy_bipush (pc' := 23) (v := 6) F dL_law_21 (by decide) rfl ?_
      refine jy_isub (pc' := 24) (v := 0) F dL_law_23 (by decide) rfl ?_
      refine jy_icmp_gt (pc' := 27) (tgt := 2059) F dL_law_24 (by decide) rfl (fun _ => ?_) (fun h => absurd h (by decide))
      refine jy_iconst (pc' := 2060) (v := 1) F dL_law_2059 (by decide) rfl ?_
      exact jy_lawret F hr hlocks (by decide) (by decide) dL_law_2060
set_option maxHeartbeats 4000000 in
set_option maxRecDepth 100000 in
theorem lc_copy {p : Program} {e : Env} {s : State} {m : MethodId} {below : List Frame} {meth : Method} {c : Code} (l : Launch) {b : Nat} {sq : Nat → Int32} (C0 : lw_At p s m meth c b 6 sq) (D : va_G) (k : jK) (F : jy_F p m c code 4 s #[Value.ref b] lw_tbl R_law D vwCl (jT k)) (hN : jy_N jW s) (h0 : Nat) (a2 : Nat) (a4 : Nat) (a5 : Nat) (a6 : Nat) (a7 : Nat) (a8 : Nat) (a9 : Nat) (a10 : Nat) (t0 : Nat) (s0 : Nat) (s1 : Nat) (s2 : Nat) (s3 : Nat) (m0 : Nat) (b1 : Nat) (b2 : Nat) (b3 : Nat) (b4 : Nat) (b5 : Nat) (b6 : Nat) (b7 : Nat) (w0 : Nat) (w1 : Nat) (w2 : Nat) (w3 : Nat) (w4 : Nat) (w5 : Nat) (w6 : Nat) (w7 : Nat) (w8 : Nat) (w9 : Nat) (w10 : Nat) (w11 : Nat) (w12 : Nat) (w13 : Nat) (w14 : Nat) (w15 : Nat) (w16 : Nat) (w17 : Nat) (w18 : Nat) (w19 : Nat) (w20 : Nat) (w21 : Nat) (w22 : Nat) (fa : Nat → Int32) (ha : fa 4 = -1 ∧ ∀ j, j ≠ 4 → fa j = 0) : JJ p l e room_1 s m #[Value.ref b] below meth c (lw_Z below #[Value.ref b] s) 4 D vwCl (fun q => s.heap.size ≤ q) (va_S (fun q => s.heap.size ≤ q) s.heap) 194 18023 [(h0, .inr (10, [.int 0, .long 0, .long 1, .ref t0, .ref a2, .ref s0, .ref a4, .int 0, .ref a5, .ref a6, .ref a7, .ref a8, .ref a9, .ref a10, .int 0])), (s0, .inr (4, [.int 0, .int 0, .int 0, .int 0, .ref s1, .ref s2, .ref s3])), (m0, .inr (11, [.ref b1, .ref b2, .int 0, .long 0, .long 1, .ref b3, .ref b4, .ref b5, .ref b6, .ref b7, .int 0, .int 0, .int 0, .int 0, .int 0, .int 0, .int (-1), .int (-1), .int 0, .int 0, .ref w0, .ref w1, .ref w2, .ref w3, .ref w4, .ref w5, .ref w6, .ref w7, .ref w8, .ref w9, .int 0, .int 0, .int 0, .ref w10, .ref w11, .int 0, .ref w12, .ref w13, .ref w14, .ref w15, .ref w16, .ref w17, .ref w18, .ref w19, .ref w20, .int 0, .ref w21, .ref w22, .int 0, .int 0, .int 0])), (b1, .inl (k.2.1, 1360, .inl fa))] 924 [(3, .int 0), (2, .ref m0), (1, .ref h0), (0, .ref b)] [] := by
  obtain ⟨hx, hb, hr, hml, hown, hts, hX, hbl, hlocks, hgv⟩ := id C0
  have hA : ∀ q : Nat, s.heap.size ≤ q → (fun q : Nat => s.heap.size ≤ q) q := fun _ h => h
  have hbA : ¬ (fun q : Nat => s.heap.size ≤ q) b := Nat.not_le.mpr hbl
  refine jy_aload_n (pc' := 925) F 2 dL_law_924 rfl rfl rfl ?_
  refine jy_aload_n (pc' := 926) F 3 dL_law_925 rfl rfl rfl ?_
  refine jy_iload_n (pc' := 927) F 0 dL_law_926 rfl rfl rfl ?_
  refine jy_iconst (pc' := 928) (v := 1) F dL_law_927 (by decide) rfl ?_
  refine jy_iadd (pc' := 929) (v := 1) F dL_law_928 (by decide) rfl ?_
  refine jy_sld (pc' := 930) (v := (sq 1)) F hX hbl hbA dL_law_929 (vp_in_nI (n := 1) (by decide) (by decide)) rfl rfl ?_
  refine jy_aload_n (pc' := 931) F 3 dL_law_930 rfl rfl rfl ?_
  refine jy_iload_n (pc' := 932) F 0 dL_law_931 rfl rfl rfl ?_
  refine jy_iconst (pc' := 933) (v := 2) F dL_law_932 (by decide) rfl ?_
  refine jy_iadd (pc' := 934) (v := 2) F dL_law_933 (by decide) rfl ?_
  refine jy_sld (pc' := 935) (v := (sq 2)) F hX hbl hbA dL_law_934 (vp_in_nI (n := 2) (by decide) (by decide)) rfl rfl ?_
  refine jy_calli (pc' := 938) (cells' := 194) (slots' := 18023) (wr := [(m0, .inr (11, [.ref b1, .ref b2, .int 0, .long 0, .long 1, .ref b3, .ref b4, .ref b5, .ref b6, .ref b7, .int 0, .int 0, .int 0, .int 0, .int 0, .int 0, .int (-1), .int (-1), .int 0, .int 0, .ref w0, .ref w1, .ref w2, .ref w3, .ref w4, .ref w5, .ref w6, .ref w7, .ref w8, .ref w9, .int 0, .int 0, .int 0, .ref w10, .ref w11, .int 0, .ref w12, .ref w13, .ref w14, .ref w15, .ref w16, .ref w17, .ref w18, .ref w19, .ref w20, .int 0, .ref w21, .ref w22, .int 0, .int 0, .int 0])), (b1, .inl (k.2.1, 1360, .inl fa))]) hA [0, 1] [2, 3] rfl rfl (by decide) (by decide) (jy_runV (As := [.int (sq 1), .int (sq 2)]) (b := h0) (q0 := 0) (ci := 10) (C := RX11) (T := TX11) (N := 15) (st := []) F hN (fun sz => c_X11_copy l D k h0 a2 a4 a5 a6 a7 a8 a9 a10 t0 s0 s1 s2 s3 (sq 1) (sq 2) sz ) (jy_cV F gl_c_X11_copy rfl hdX11_copy (lm_171) (lm_1056) (lm_1057) (lm_1058) rfl rfl ⟨by decide, by decide⟩) rfl rfl [0, 1] rfl (by decide) rfl rfl (Nat.le_of_ble_eq_true rfl) dL_law_935 ⟨by decide, by decide⟩) rfl rfl rfl (fun r_3 u_1 e_2 => ?_)
  subst e_2
  refine jy_aload_n (pc' := 939) F 1 dL_law_938 rfl rfl rfl ?_
  refine jy_aload_n (pc' := 940) F 3 dL_law_939 rfl rfl rfl ?_
  refine jy_iload_n (pc' := 941) F 0 dL_law_940 rfl rfl rfl ?_
  refine jy_iconst (pc' := 942) (v := 1) F dL_law_941 (by decide) rfl ?_
  refine jy_iadd (pc' := 943) (v := 1) F dL_law_942 (by decide) rfl ?_
  refine jy_sld (pc' := 944) (v := (sq 1)) F hX hbl hbA dL_law_943 (vp_in_nI (n := 1) (by decide) (by decide)) rfl rfl ?_
  refine jy_aload_n (pc' := 945) F 3 dL_law_944 rfl rfl rfl ?_
  refine jy_iload_n (pc' := 946) F 0 dL_law_945 rfl rfl rfl ?_
  refine jy_iconst (pc' := 947) (v := 2) F dL_law_946 (by decide) rfl ?_
  refine jy_iadd (pc' := 948) (v := 2) F dL_law_947 (by decide) rfl ?_
  refine jy_sld (pc' := 949) (v := (sq 2)) F hX hbl hbA dL_law_948 (vp_in_nI (n := 2) (by decide) (by decide)) rfl rfl ?_
  refine jy_calli (pc' := 952) (cells' := 194) (slots' := 18023) (wr := []) hA [0, 1] [] rfl rfl (by decide) (by decide) (jy_runV (As := [.int (sq 1), .int (sq 2)]) (b := m0) (q0 := 0) (ci := 11) (C := RX12) (T := TX12) (N := 51) (st := [.int 0]) F hN (fun sz => c_X12_copy l D k m0 b1 b2 b3 b4 b5 b6 b7 w0 w1 w2 w3 w4 w5 w6 w7 w8 w9 w10 w11 w12 w13 w14 w15 w16 w17 w18 w19 w20 w21 w22 fa (sq 1) (sq 2) sz (ha)) (jy_cV F gl_c_X12_copy rfl hdX12_copy (lm_185) (lm_1999) (lm_2000) (lm_2001) rfl rfl ⟨by decide, by decide⟩) rfl rfl [0, 1] rfl (by decide) rfl rfl (Nat.le_of_ble_eq_true rfl) dL_law_949 ⟨by decide, by decide⟩) rfl rfl rfl (fun r_6 u_4 e_5 => ?_)
  subst e_5
  refine jy_icmp_eq (pc' := 955) (tgt := 2053) F dL_law_952 (by decide) rfl (fun _ => ?_) (fun h => absurd h (by decide))
  refine jy_iinc (pc' := 2056) (v := 6) (lv' := [(3, .int 6), (2, .ref m0), (1, .ref h0), (0, .ref b)]) F 0 dL_law_2053 rfl (by decide) (by decide) rfl rfl ?_
  refine jy_goto (tgt := 18) F dL_law_2056 (by decide) ?_
  refine jy_iload_n (pc' := 19) F 0 dL_law_18 rfl rfl rfl ?_
  refine jy_aload_n (pc' := 20) F 3 dL_law_19 rfl rfl rfl ?_
  refine jy_slen (pc' := 21) (v := 6) F hX hbl hbA dL_law_20 rfl rfl ?_
  refine jy_bipush (pc' := 23) (v := 6) F dL_law_21 (by decide) rfl ?_
  refine jy_isub (pc' := 24) (v := 0) F dL_law_23 (by decide) rfl ?_
  refine jy_icmp_gt (pc' := 27) (tgt := 2059) F dL_law_24 (by decide) rfl (fun _ => ?_) (fun h => absurd h (by decide))
  refine jy_iconst (pc' := 2060) (v := 1) F dL_law_2059 (by decide) rfl ?_
  exact jy_lawret F hr hlocks (by decide) (by decide) dL_law_2060
set_option maxHeartbeats 4000000 in
set_option maxRecDepth 100000 in
theorem lc_takes {p : Program} {e : Env} {s : State} {m : MethodId} {below : List Frame} {meth : Method} {c : Code} (l : Launch) {b : Nat} {sq : Nat → Int32} (C0 : lw_At p s m meth c b 6 sq) (D : va_G) (k : jK) (F : jy_F p m c code 4 s #[Value.ref b] lw_tbl R_law D vwCl (jT k)) (hN : jy_N jW s) (h0 : Nat) (a2 : Nat) (a4 : Nat) (a5 : Nat) (a6 : Nat) (a7 : Nat) (a8 : Nat) (a9 : Nat) (a10 : Nat) (t0 : Nat) (s0 : Nat) (t1 : Nat) (t2 : Nat) (t3 : Nat) (fp : Nat → Int32) (s1 : Nat) (s2 : Nat) (s3 : Nat) (m0 : Nat) (b1 : Nat) (b2 : Nat) (b3 : Nat) (b4 : Nat) (b5 : Nat) (b6 : Nat) (b7 : Nat) (w0 : Nat) (w1 : Nat) (w2 : Nat) (w3 : Nat) (w4 : Nat) (w5 : Nat) (w6 : Nat) (w7 : Nat) (w8 : Nat) (w9 : Nat) (w10 : Nat) (w11 : Nat) (w12 : Nat) (w13 : Nat) (w14 : Nat) (w15 : Nat) (w16 : Nat) (w17 : Nat) (w18 : Nat) (w19 : Nat) (w20 : Nat) (w21 : Nat) (w22 : Nat) (fa : Nat → Int32) (hp : ∀ j, j < 4 → fp j = -1) (ha : fa 4 = -1 ∧ ∀ j, j ≠ 4 → fa j = 0) : JJ p l e room_1 s m #[Value.ref b] below meth c (lw_Z below #[Value.ref b] s) 4 D vwCl (fun q => s.heap.size ≤ q) (va_S (fun q => s.heap.size ≤ q) s.heap) 194 18023 [(h0, .inr (10, [.int 0, .long 0, .long 1, .ref t0, .ref a2, .ref s0, .ref a4, .int 0, .ref a5, .ref a6, .ref a7, .ref a8, .ref a9, .ref a10, .int 0])), (t0, .inr (8, [.ref t1, .ref t2, .ref t3])), (t3, .inl (k.2.1, 4, .inl fp)), (s0, .inr (4, [.int 0, .int 0, .int 0, .int 0, .ref s1, .ref s2, .ref s3])), (m0, .inr (11, [.ref b1, .ref b2, .int 0, .long 0, .long 1, .ref b3, .ref b4, .ref b5, .ref b6, .ref b7, .int 0, .int 0, .int 0, .int 0, .int 0, .int 0, .int (-1), .int (-1), .int 0, .int 0, .ref w0, .ref w1, .ref w2, .ref w3, .ref w4, .ref w5, .ref w6, .ref w7, .ref w8, .ref w9, .int 0, .int 0, .int 0, .ref w10, .ref w11, .int 0, .ref w12, .ref w13, .ref w14, .ref w15, .ref w16, .ref w17, .ref w18, .ref w19, .ref w20, .int 0, .ref w21, .ref w22, .int 0, .int 0, .int 0])), (b1, .inl (k.2.1, 1360, .inl fa))] 957 [(3, .int 0), (2, .ref m0), (1, .ref h0), (0, .ref b)] [] := by
  obtain ⟨hx, hb, hr, hml, hown, hts, hX, hbl, hlocks, hgv⟩ := id C0
  have hA : ∀ q : Nat, s.heap.size ≤ q → (fun q : Nat => s.heap.size ≤ q) q := fun _ h => h
  have hbA : ¬ (fun q : Nat => s.heap.size ≤ q) b := Nat.not_le.mpr hbl
  refine jy_aload_n (pc' := 958) F 2 dL_law_957 rfl rfl rfl ?_
  refine jy_aload_n (pc' := 959) F 3 dL_law_958 rfl rfl rfl ?_
  refine jy_iload_n (pc' := 960) F 0 dL_law_959 rfl rfl rfl ?_
  refine jy_iconst (pc' := 961) (v := 1) F dL_law_960 (by decide) rfl ?_
  refine jy_iadd (pc' := 962) (v := 1) F dL_law_961 (by decide) rfl ?_
  refine jy_sld (pc' := 963) (v := (sq 1)) F hX hbl hbA dL_law_962 (vp_in_nI (n := 1) (by decide) (by decide)) rfl rfl ?_
  refine jy_aload_n (pc' := 964) F 3 dL_law_963 rfl rfl rfl ?_
  refine jy_iload_n (pc' := 965) F 0 dL_law_964 rfl rfl rfl ?_
  refine jy_iconst (pc' := 966) (v := 2) F dL_law_965 (by decide) rfl ?_
  refine jy_iadd (pc' := 967) (v := 2) F dL_law_966 (by decide) rfl ?_
  refine jy_sld (pc' := 968) (v := (sq 2)) F hX hbl hbA dL_law_967 (vp_in_nI (n := 2) (by decide) (by decide)) rfl rfl ?_
  refine jy_aload_n (pc' := 969) F 3 dL_law_968 rfl rfl rfl ?_
  refine jy_iload_n (pc' := 970) F 0 dL_law_969 rfl rfl rfl ?_
  refine jy_iconst (pc' := 971) (v := 3) F dL_law_970 (by decide) rfl ?_
  refine jy_iadd (pc' := 972) (v := 3) F dL_law_971 (by decide) rfl ?_
  refine jy_sld (pc' := 973) (v := (sq 3)) F hX hbl hbA dL_law_972 (vp_in_nI (n := 3) (by decide) (by decide)) rfl rfl ?_
  refine jy_calli (pc' := 976) (cells' := 194) (slots' := 18023) (wr := [(m0, .inr (11, [.ref b1, .ref b2, .int 0, .long 0, .long 1, .ref b3, .ref b4, .ref b5, .ref b6, .ref b7, .int 0, .int 0, .int 0, .int 0, .int 0, .int 0, .int (-1), .int (-1), .int 0, .int 0, .ref w0, .ref w1, .ref w2, .ref w3, .ref w4, .ref w5, .ref w6, .ref w7, .ref w8, .ref w9, .int 0, .int 0, .int 0, .ref w10, .ref w11, .int 0, .ref w12, .ref w13, .ref w14, .ref w15, .ref w16, .ref w17, .ref w18, .ref w19, .ref w20, .int 0, .ref w21, .ref w22, .int 0, .int 0, .int 0])), (b1, .inl (k.2.1, 1360, .inl fa))]) hA [0, 1, 2, 3] [4, 5] rfl rfl (by decide) (by decide) (jy_runV (As := [.int (sq 1), .int (sq 2), .int (sq 3)]) (b := h0) (q0 := 0) (ci := 10) (C := RX11) (T := TX11) (N := 15) (st := []) F hN (fun sz => c_X11_takes l D k h0 a2 a4 a5 a6 a7 a8 a9 a10 t0 s0 t1 t2 t3 fp s1 s2 s3 (sq 1) (sq 2) (sq 3) sz (hp)) (jy_cV F gl_c_X11_takes rfl hdX11_takes (lm_171) (lm_1069) (lm_1070) (lm_1071) rfl rfl ⟨by decide, by decide⟩) rfl rfl [0, 1, 2, 3] rfl (by decide) rfl rfl (Nat.le_of_ble_eq_true rfl) dL_law_973 ⟨by decide, by decide⟩) rfl rfl rfl (fun r_3 u_1 e_2 => ?_)
  subst e_2
  refine jy_aload_n (pc' := 977) F 1 dL_law_976 rfl rfl rfl ?_
  refine jy_aload_n (pc' := 978) F 3 dL_law_977 rfl rfl rfl ?_
  refine jy_iload_n (pc' := 979) F 0 dL_law_978 rfl rfl rfl ?_
  refine jy_iconst (pc' := 980) (v := 1) F dL_law_979 (by decide) rfl ?_
  refine jy_iadd (pc' := 981) (v := 1) F dL_law_980 (by decide) rfl ?_
  refine jy_sld (pc' := 982) (v := (sq 1)) F hX hbl hbA dL_law_981 (vp_in_nI (n := 1) (by decide) (by decide)) rfl rfl ?_
  refine jy_aload_n (pc' := 983) F 3 dL_law_982 rfl rfl rfl ?_
  refine jy_iload_n (pc' := 984) F 0 dL_law_983 rfl rfl rfl ?_
  refine jy_iconst (pc' := 985) (v := 2) F dL_law_984 (by decide) rfl ?_
  refine jy_iadd (pc' := 986) (v := 2) F dL_law_985 (by decide) rfl ?_
  refine jy_sld (pc' := 987) (v := (sq 2)) F hX hbl hbA dL_law_986 (vp_in_nI (n := 2) (by decide) (by decide)) rfl rfl ?_
  refine jy_aload_n (pc' := 988) F 3 dL_law_987 rfl rfl rfl ?_
  refine jy_iload_n (pc' := 989) F 0 dL_law_988 rfl rfl rfl ?_
  refine jy_iconst (pc' := 990) (v := 3) F dL_law_989 (by decide) rfl ?_
  refine jy_iadd (pc' := 991) (v := 3) F dL_law_990 (by decide) rfl ?_
  refine jy_sld (pc' := 992) (v := (sq 3)) F hX hbl hbA dL_law_991 (vp_in_nI (n := 3) (by decide) (by decide)) rfl rfl ?_
  refine jy_calli (pc' := 995) (cells' := 194) (slots' := 18023) (wr := []) hA [0, 1] [] rfl rfl (by decide) (by decide) (jy_runV (As := [.int (sq 1), .int (sq 2), .int (sq 3)]) (b := m0) (q0 := 0) (ci := 11) (C := RX12) (T := TX12) (N := 51) (st := [.int (-1)]) F hN (fun sz => c_X12_takes l D k m0 b1 b2 b3 b4 b5 b6 b7 w0 w1 w2 w3 w4 w5 w6 w7 w8 w9 w10 w11 w12 w13 w14 w15 w16 w17 w18 w19 w20 w21 w22 fa (sq 1) (sq 2) (sq 3) sz (ha)) (jy_cV F gl_c_X12_takes rfl hdX12_takes (lm_185) (lm_2007) (lm_2008) (lm_2009) rfl rfl ⟨by decide, by decide⟩) rfl rfl [0, 1] rfl (by decide) rfl rfl (Nat.le_of_ble_eq_true rfl) dL_law_992 ⟨by decide, by decide⟩) rfl rfl rfl (fun r_6 u_4 e_5 => ?_)
  subst e_5
  refine jy_icmp_eq (pc' := 998) (tgt := 2053) F dL_law_995 (by decide) rfl (fun _ => ?_) (fun h => absurd h (by decide))
  refine jy_iinc (pc' := 2056) (v := 6) (lv' := [(3, .int 6), (2, .ref m0), (1, .ref h0), (0, .ref b)]) F 0 dL_law_2053 rfl (by decide) (by decide) rfl rfl ?_
  refine jy_goto (tgt := 18) F dL_law_2056 (by decide) ?_
  refine jy_iload_n (pc' := 19) F 0 dL_law_18 rfl rfl rfl ?_
  refine jy_aload_n (pc' := 20) F 3 dL_law_19 rfl rfl rfl ?_
  refine jy_slen (pc' := 21) (v := 6) F hX hbl hbA dL_law_20 rfl rfl ?_
  refine jy_bipush (pc' := 23) (v := 6) F dL_law_21 (by decide) rfl ?_
  refine jy_isub (pc' := 24) (v := 0) F dL_law_23 (by decide) rfl ?_
  refine jy_icmp_gt (pc' := 27) (tgt := 2059) F dL_law_24 (by decide) rfl (fun _ => ?_) (fun h => absurd h (by decide))
  refine jy_iconst (pc' := 2060) (v := 1) F dL_law_2059 (by decide) rfl ?_
  exact jy_lawret F hr hlocks (by decide) (by decide) dL_law_2060
set_option maxHeartbeats 4000000 in
set_option maxRecDepth 100000 in
theorem lc_ends {p : Program} {e : Env} {s : State} {m : MethodId} {below : List Frame} {meth : Method} {c : Code} (l : Launch) {b : Nat} {sq : Nat → Int32} (C0 : lw_At p s m meth c b 6 sq) (D : va_G) (k : jK) (F : jy_F p m c code 4 s #[Value.ref b] lw_tbl R_law D vwCl (jT k)) (hN : jy_N jW s) (h0 : Nat) (a2 : Nat) (a4 : Nat) (a5 : Nat) (a6 : Nat) (a7 : Nat) (a8 : Nat) (a9 : Nat) (a10 : Nat) (t0 : Nat) (s0 : Nat) (t1 : Nat) (t2 : Nat) (t3 : Nat) (fp : Nat → Int32) (s1 : Nat) (s2 : Nat) (s3 : Nat) (m0 : Nat) (b1 : Nat) (b2 : Nat) (b3 : Nat) (b4 : Nat) (b5 : Nat) (b6 : Nat) (b7 : Nat) (w0 : Nat) (w1 : Nat) (w2 : Nat) (w3 : Nat) (w4 : Nat) (w5 : Nat) (w6 : Nat) (w7 : Nat) (w8 : Nat) (w9 : Nat) (w10 : Nat) (w11 : Nat) (w12 : Nat) (w13 : Nat) (w14 : Nat) (w15 : Nat) (w16 : Nat) (w17 : Nat) (w18 : Nat) (w19 : Nat) (w20 : Nat) (w21 : Nat) (w22 : Nat) (fa : Nat → Int32) (hp : ∀ j, j < 4 → fp j = -1) (ha : fa 4 = -1 ∧ ∀ j, j ≠ 4 → fa j = 0) : JJ p l e room_1 s m #[Value.ref b] below meth c (lw_Z below #[Value.ref b] s) 4 D vwCl (fun q => s.heap.size ≤ q) (va_S (fun q => s.heap.size ≤ q) s.heap) 194 18023 [(h0, .inr (10, [.int 0, .long 0, .long 1, .ref t0, .ref a2, .ref s0, .ref a4, .int 0, .ref a5, .ref a6, .ref a7, .ref a8, .ref a9, .ref a10, .int 0])), (t0, .inr (8, [.ref t1, .ref t2, .ref t3])), (t3, .inl (k.2.1, 4, .inl fp)), (s0, .inr (4, [.int 0, .int 0, .int 0, .int 0, .ref s1, .ref s2, .ref s3])), (m0, .inr (11, [.ref b1, .ref b2, .int 0, .long 0, .long 1, .ref b3, .ref b4, .ref b5, .ref b6, .ref b7, .int 0, .int 0, .int 0, .int 0, .int 0, .int 0, .int (-1), .int (-1), .int 0, .int 0, .ref w0, .ref w1, .ref w2, .ref w3, .ref w4, .ref w5, .ref w6, .ref w7, .ref w8, .ref w9, .int 0, .int 0, .int 0, .ref w10, .ref w11, .int 0, .ref w12, .ref w13, .ref w14, .ref w15, .ref w16, .ref w17, .ref w18, .ref w19, .ref w20, .int 0, .ref w21, .ref w22, .int 0, .int 0, .int 0])), (b1, .inl (k.2.1, 1360, .inl fa))] 1000 [(3, .int 0), (2, .ref m0), (1, .ref h0), (0, .ref b)] [] := by
  obtain ⟨hx, hb, hr, hml, hown, hts, hX, hbl, hlocks, hgv⟩ := id C0
  have hA : ∀ q : Nat, s.heap.size ≤ q → (fun q : Nat => s.heap.size ≤ q) q := fun _ h => h
  have hbA : ¬ (fun q : Nat => s.heap.size ≤ q) b := Nat.not_le.mpr hbl
  refine jy_aload_n (pc' := 1001) F 2 dL_law_1000 rfl rfl rfl ?_
  refine jy_aload_n (pc' := 1002) F 3 dL_law_1001 rfl rfl rfl ?_
  refine jy_iload_n (pc' := 1003) F 0 dL_law_1002 rfl rfl rfl ?_
  refine jy_iconst (pc' := 1004) (v := 1) F dL_law_1003 (by decide) rfl ?_
  refine jy_iadd (pc' := 1005) (v := 1) F dL_law_1004 (by decide) rfl ?_
  refine jy_sld (pc' := 1006) (v := (sq 1)) F hX hbl hbA dL_law_1005 (vp_in_nI (n := 1) (by decide) (by decide)) rfl rfl ?_
  refine jy_aload_n (pc' := 1007) F 3 dL_law_1006 rfl rfl rfl ?_
  refine jy_iload_n (pc' := 1008) F 0 dL_law_1007 rfl rfl rfl ?_
  refine jy_iconst (pc' := 1009) (v := 2) F dL_law_1008 (by decide) rfl ?_
  refine jy_iadd (pc' := 1010) (v := 2) F dL_law_1009 (by decide) rfl ?_
  refine jy_sld (pc' := 1011) (v := (sq 2)) F hX hbl hbA dL_law_1010 (vp_in_nI (n := 2) (by decide) (by decide)) rfl rfl ?_
  refine jy_aload_n (pc' := 1012) F 3 dL_law_1011 rfl rfl rfl ?_
  refine jy_iload_n (pc' := 1013) F 0 dL_law_1012 rfl rfl rfl ?_
  refine jy_iconst (pc' := 1014) (v := 3) F dL_law_1013 (by decide) rfl ?_
  refine jy_iadd (pc' := 1015) (v := 3) F dL_law_1014 (by decide) rfl ?_
  refine jy_sld (pc' := 1016) (v := (sq 3)) F hX hbl hbA dL_law_1015 (vp_in_nI (n := 3) (by decide) (by decide)) rfl rfl ?_
  refine jy_calli (pc' := 1019) (cells' := 194) (slots' := 18023) (wr := [(m0, .inr (11, [.ref b1, .ref b2, .int 0, .long 0, .long 1, .ref b3, .ref b4, .ref b5, .ref b6, .ref b7, .int 0, .int 0, .int 0, .int 0, .int 0, .int 0, .int (-1), .int (-1), .int 0, .int 0, .ref w0, .ref w1, .ref w2, .ref w3, .ref w4, .ref w5, .ref w6, .ref w7, .ref w8, .ref w9, .int 0, .int 0, .int 0, .ref w10, .ref w11, .int 0, .ref w12, .ref w13, .ref w14, .ref w15, .ref w16, .ref w17, .ref w18, .ref w19, .ref w20, .int 0, .ref w21, .ref w22, .int 0, .int 0, .int 0])), (b1, .inl (k.2.1, 1360, .inl fa))]) hA [0, 1, 2, 3] [4, 5] rfl rfl (by decide) (by decide) (jy_runV (As := [.int (sq 1), .int (sq 2), .int (sq 3)]) (b := h0) (q0 := 0) (ci := 10) (C := RX11) (T := TX11) (N := 15) (st := []) F hN (fun sz => c_X11_ends l D k h0 a2 a4 a5 a6 a7 a8 a9 a10 t0 s0 t1 t2 t3 fp s1 s2 s3 (sq 1) (sq 2) (sq 3) sz (hp)) (jy_cV F gl_c_X11_ends rfl hdX11_ends (lm_171) (lm_1113) (lm_1114) (lm_1115) rfl rfl ⟨by decide, by decide⟩) rfl rfl [0, 1, 2, 3] rfl (by decide) rfl rfl (Nat.le_of_ble_eq_true rfl) dL_law_1016 ⟨by decide, by decide⟩) rfl rfl rfl (fun r_3 u_1 e_2 => ?_)
  subst e_2
  refine jy_aload_n (pc' := 1020) F 1 dL_law_1019 rfl rfl rfl ?_
  refine jy_aload_n (pc' := 1021) F 3 dL_law_1020 rfl rfl rfl ?_
  refine jy_iload_n (pc' := 1022) F 0 dL_law_1021 rfl rfl rfl ?_
  refine jy_iconst (pc' := 1023) (v := 1) F dL_law_1022 (by decide) rfl ?_
  refine jy_iadd (pc' := 1024) (v := 1) F dL_law_1023 (by decide) rfl ?_
  refine jy_sld (pc' := 1025) (v := (sq 1)) F hX hbl hbA dL_law_1024 (vp_in_nI (n := 1) (by decide) (by decide)) rfl rfl ?_
  refine jy_aload_n (pc' := 1026) F 3 dL_law_1025 rfl rfl rfl ?_
  refine jy_iload_n (pc' := 1027) F 0 dL_law_1026 rfl rfl rfl ?_
  refine jy_iconst (pc' := 1028) (v := 2) F dL_law_1027 (by decide) rfl ?_
  refine jy_iadd (pc' := 1029) (v := 2) F dL_law_1028 (by decide) rfl ?_
  refine jy_sld (pc' := 1030) (v := (sq 2)) F hX hbl hbA dL_law_1029 (vp_in_nI (n := 2) (by decide) (by decide)) rfl rfl ?_
  refine jy_aload_n (pc' := 1031) F 3 dL_law_1030 rfl rfl rfl ?_
  refine jy_iload_n (pc' := 1032) F 0 dL_law_1031 rfl rfl rfl ?_
  refine jy_iconst (pc' := 1033) (v := 3) F dL_law_1032 (by decide) rfl ?_
  refine jy_iadd (pc' := 1034) (v := 3) F dL_law_1033 (by decide) rfl ?_
  refine jy_sld (pc' := 1035) (v := (sq 3)) F hX hbl hbA dL_law_1034 (vp_in_nI (n := 3) (by decide) (by decide)) rfl rfl ?_
  refine jy_calli (pc' := 1038) (cells' := 194) (slots' := 18023) (wr := []) hA [0, 1] [] rfl rfl (by decide) (by decide) (jy_runV (As := [.int (sq 1), .int (sq 2), .int (sq 3)]) (b := m0) (q0 := 0) (ci := 11) (C := RX12) (T := TX12) (N := 51) (st := [.int (-1)]) F hN (fun sz => c_X12_ends l D k m0 b1 b2 b3 b4 b5 b6 b7 w0 w1 w2 w3 w4 w5 w6 w7 w8 w9 w10 w11 w12 w13 w14 w15 w16 w17 w18 w19 w20 w21 w22 fa (sq 1) (sq 2) (sq 3) sz (ha)) (jy_cV F gl_c_X12_ends rfl hdX12_ends (lm_185) (lm_2067) (lm_2068) (lm_2069) rfl rfl ⟨by decide, by decide⟩) rfl rfl [0, 1] rfl (by decide) rfl rfl (Nat.le_of_ble_eq_true rfl) dL_law_1035 ⟨by decide, by decide⟩) rfl rfl rfl (fun r_6 u_4 e_5 => ?_)
  subst e_5
  refine jy_icmp_eq (pc' := 1041) (tgt := 2053) F dL_law_1038 (by decide) rfl (fun _ => ?_) (fun h => absurd h (by decide))
  refine jy_iinc (pc' := 2056) (v := 6) (lv' := [(3, .int 6), (2, .ref m0), (1, .ref h0), (0, .ref b)]) F 0 dL_law_2053 rfl (by decide) (by decide) rfl rfl ?_
  refine jy_goto (tgt := 18) F dL_law_2056 (by decide) ?_
  refine jy_iload_n (pc' := 19) F 0 dL_law_18 rfl rfl rfl ?_
  refine jy_aload_n (pc' := 20) F 3 dL_law_19 rfl rfl rfl ?_
  refine jy_slen (pc' := 21) (v := 6) F hX hbl hbA dL_law_20 rfl rfl ?_
  refine jy_bipush (pc' := 23) (v := 6) F dL_law_21 (by decide) rfl ?_
  refine jy_isub (pc' := 24) (v := 0) F dL_law_23 (by decide) rfl ?_
  refine jy_icmp_gt (pc' := 27) (tgt := 2059) F dL_law_24 (by decide) rfl (fun _ => ?_) (fun h => absurd h (by decide))
  refine jy_iconst (pc' := 2060) (v := 1) F dL_law_2059 (by decide) rfl ?_
  exact jy_lawret F hr hlocks (by decide) (by decide) dL_law_2060
