set_option maxHeartbeats 4000000 in
set_option maxRecDepth 100000 in
theorem lc_runs {p : Program} {e : Env} {s : State} {m : MethodId} {below : List Frame} {meth : Method} {c : Code} (l : Launch) {b : Nat} {sq : Nat → Int32} (C0 : lw_At p s m meth c b 6 sq) (D : va_G) (k : jK) (F : jy_F p m c code 4 s #[Value.ref b] lw_tbl R_law D vwCl (jT k)) (hN : jy_N jW s) (h0 : Nat) (a2 : Nat) (a4 : Nat) (a5 : Nat) (a6 : Nat) (a7 : Nat) (a8 : Nat) (a9 : Nat) (a10 : Nat) (t0 : Nat) (s0 : Nat) (t1 : Nat) (t2 : Nat) (t3 : Nat) (fp : Nat → Int32) (s1 : Nat) (s2 : Nat) (s3 : Nat) (m0 : Nat) (b1 : Nat) (b2 : Nat) (b3 : Nat) (b4 : Nat) (b5 : Nat) (b6 : Nat) (b7 : Nat) (w0 : Nat) (w1 : Nat) (w2 : Nat) (w3 : Nat) (w4 : Nat) (w5 : Nat) (w6 : Nat) (w7 : Nat) (w8 : Nat) (w9 : Nat) (w10 : Nat) (w11 : Nat) (w12 : Nat) (w13 : Nat) (w14 : Nat) (w15 : Nat) (w16 : Nat) (w17 : Nat) (w18 : Nat) (w19 : Nat) (w20 : Nat) (w21 : Nat) (w22 : Nat) (fa : Nat → Int32) (hp : ∀ j, j < 4 → fp j = -1) (ha : fa 4 = -1 ∧ ∀ j, j ≠ 4 → fa j = 0) : JJ p l e room_1 s m #[Value.ref b] below meth c (lw_Z below #[Value.ref b] s) 4 D vwCl (fun q => s.heap.size ≤ q) (va_S (fun q => s.heap.size ≤ q) s.heap) 194 18023 [(h0, .inr (10, [.int 0, .long 0, .long 1, .ref t0, .ref a2, .ref s0, .ref a4, .int 0, .ref a5, .ref a6, .ref a7, .ref a8, .ref a9, .ref a10, .int 0])), (t0, .inr (8, [.ref t1, .ref t2, .ref t3])), (t3, .inl (k.2.1, 4, .inl fp)), (s0, .inr (4, [.int 0, .int 0, .int 0, .int 0, .ref s1, .ref s2, .ref s3])), (m0, .inr (11, [.ref b1, .ref b2, .int 0, .long 0, .long 1, .ref b3, .ref b4, .ref b5, .ref b6, .ref b7, .int 0, .int 0, .int 0, .int 0, .int 0, .int 0, .int (-1), .int (-1), .int 0, .int 0, .ref w0, .ref w1, .ref w2, .ref w3, .ref w4, .ref w5, .ref w6, .ref w7, .ref w8, .ref w9, .int 0, .int 0, .int 0, .ref w10, .ref w11, .int 0, .ref w12, .ref w13, .ref w14, .ref w15, .ref w16, .ref w17, .ref w18, .ref w19, .ref w20, .int 0, .ref w21, .ref w22, .int 0, .int 0, .int 0])), (b1, .inl (k.2.1, 1360, .inl fa))] 1043 [(3, .int 0), (2, .ref m0), (1, .ref h0), (0, .ref b)] [] := by
  obtain ⟨hx, hb, hr, hml, hown, hts, hX, hbl, hlocks, hgv⟩ := id C0
  have hA : ∀ q : Nat, s.heap.size ≤ q → (fun q : Nat => s.heap.size ≤ q) q := fun _ h => h
  have hbA : ¬ (fun q : Nat => s.heap.size ≤ q) b := Nat.not_le.mpr hbl
  refine jy_aload_n (pc' := 1044) F 2 dL_law_1043 rfl rfl rfl ?_
  refine jy_aload_n (pc' := 1045) F 3 dL_law_1044 rfl rfl rfl ?_
  refine jy_iload_n (pc' := 1046) F 0 dL_law_1045 rfl rfl rfl ?_
  refine jy_iconst (pc' := 1047) (v := 1) F dL_law_1046 (by decide) rfl ?_
  refine jy_iadd (pc' := 1048) (v := 1) F dL_law_1047 (by decide) rfl ?_
  refine jy_sld (pc' := 1049) (v := (sq 1)) F hX hbl hbA dL_law_1048 (vp_in_nI (n := 1) (by decide) (by decide)) rfl rfl ?_
  refine jy_aload_n (pc' := 1050) F 3 dL_law_1049 rfl rfl rfl ?_
  refine jy_iload_n (pc' := 1051) F 0 dL_law_1050 rfl rfl rfl ?_
  refine jy_iconst (pc' := 1052) (v := 2) F dL_law_1051 (by decide) rfl ?_
  refine jy_iadd (pc' := 1053) (v := 2) F dL_law_1052 (by decide) rfl ?_
  refine jy_sld (pc' := 1054) (v := (sq 2)) F hX hbl hbA dL_law_1053 (vp_in_nI (n := 2) (by decide) (by decide)) rfl rfl ?_
  refine jy_aload_n (pc' := 1055) F 3 dL_law_1054 rfl rfl rfl ?_
  refine jy_iload_n (pc' := 1056) F 0 dL_law_1055 rfl rfl rfl ?_
  refine jy_iconst (pc' := 1057) (v := 3) F dL_law_1056 (by decide) rfl ?_
  refine jy_iadd (pc' := 1058) (v := 3) F dL_law_1057 (by decide) rfl ?_
  refine jy_sld (pc' := 1059) (v := (sq 3)) F hX hbl hbA dL_law_1058 (vp_in_nI (n := 3) (by decide) (by decide)) rfl rfl ?_
  refine jy_calli (pc' := 1062) (cells' := 194) (slots' := 18023) (wr := [(m0, .inr (11, [.ref b1, .ref b2, .int 0, .long 0, .long 1, .ref b3, .ref b4, .ref b5, .ref b6, .ref b7, .int 0, .int 0, .int 0, .int 0, .int 0, .int 0, .int (-1), .int (-1), .int 0, .int 0, .ref w0, .ref w1, .ref w2, .ref w3, .ref w4, .ref w5, .ref w6, .ref w7, .ref w8, .ref w9, .int 0, .int 0, .int 0, .ref w10, .ref w11, .int 0, .ref w12, .ref w13, .ref w14, .ref w15, .ref w16, .ref w17, .ref w18, .ref w19, .ref w20, .int 0, .ref w21, .ref w22, .int 0, .int 0, .int 0])), (b1, .inl (k.2.1, 1360, .inl fa))]) hA [0, 1, 2, 3] [4, 5] rfl rfl (by decide) (by decide) (jy_runV (As := [.int (sq 1), .int (sq 2), .int (sq 3)]) (b := h0) (q0 := 0) (ci := 10) (C := RX11) (T := TX11) (N := 15) (st := []) F hN (fun sz => c_X11_runs l D k h0 a2 a4 a5 a6 a7 a8 a9 a10 t0 s0 t1 t2 t3 fp s1 s2 s3 (sq 1) (sq 2) (sq 3) sz (hp)) (jy_cV F gl_c_X11_runs rfl hdX11_runs (lm_171) (lm_1117) (lm_1118) (lm_1119) rfl rfl ⟨by decide, by decide⟩) rfl rfl [0, 1, 2, 3] rfl (by decide) rfl rfl (Nat.le_of_ble_eq_true rfl) dL_law_1059 ⟨by decide, by decide⟩) rfl rfl rfl (fun r_3 u_1 e_2 => ?_)
  subst e_2
  refine jy_aload_n (pc' := 1063) F 1 dL_law_1062 rfl rfl rfl ?_
  refine jy_aload_n (pc' := 1064) F 3 dL_law_1063 rfl rfl rfl ?_
  refine jy_iload_n (pc' := 1065) F 0 dL_law_1064 rfl rfl rfl ?_
  refine jy_iconst (pc' := 1066) (v := 1) F dL_law_1065 (by decide) rfl ?_
  refine jy_iadd (pc' := 1067) (v := 1) F dL_law_1066 (by decide) rfl ?_
  refine jy_sld (pc' := 1068) (v := (sq 1)) F hX hbl hbA dL_law_1067 (vp_in_nI (n := 1) (by decide) (by decide)) rfl rfl ?_
  refine jy_aload_n (pc' := 1069) F 3 dL_law_1068 rfl rfl rfl ?_
  refine jy_iload_n (pc' := 1070) F 0 dL_law_1069 rfl rfl rfl ?_
  refine jy_iconst (pc' := 1071) (v := 2) F dL_law_1070 (by decide) rfl ?_
  refine jy_iadd (pc' := 1072) (v := 2) F dL_law_1071 (by decide) rfl ?_
  refine jy_sld (pc' := 1073) (v := (sq 2)) F hX hbl hbA dL_law_1072 (vp_in_nI (n := 2) (by decide) (by decide)) rfl rfl ?_
  refine jy_aload_n (pc' := 1074) F 3 dL_law_1073 rfl rfl rfl ?_
  refine jy_iload_n (pc' := 1075) F 0 dL_law_1074 rfl rfl rfl ?_
  refine jy_iconst (pc' := 1076) (v := 3) F dL_law_1075 (by decide) rfl ?_
  refine jy_iadd (pc' := 1077) (v := 3) F dL_law_1076 (by decide) rfl ?_
  refine jy_sld (pc' := 1078) (v := (sq 3)) F hX hbl hbA dL_law_1077 (vp_in_nI (n := 3) (by decide) (by decide)) rfl rfl ?_
  refine jy_calli (pc' := 1081) (cells' := 194) (slots' := 18023) (wr := []) hA [0, 1] [] rfl rfl (by decide) (by decide) (jy_runV (As := [.int (sq 1), .int (sq 2), .int (sq 3)]) (b := m0) (q0 := 0) (ci := 11) (C := RX12) (T := TX12) (N := 51) (st := [.int 0]) F hN (fun sz => c_X12_runs l D k m0 b1 b2 b3 b4 b5 b6 b7 w0 w1 w2 w3 w4 w5 w6 w7 w8 w9 w10 w11 w12 w13 w14 w15 w16 w17 w18 w19 w20 w21 w22 fa (sq 1) (sq 2) (sq 3) sz (ha)) (jy_cV F gl_c_X12_runs rfl hdX12_runs (lm_185) (lm_2071) (lm_2072) (lm_2073) rfl rfl ⟨by decide, by decide⟩) rfl rfl [0, 1] rfl (by decide) rfl rfl (Nat.le_of_ble_eq_true rfl) dL_law_1078 ⟨by decide, by decide⟩) rfl rfl rfl (fun r_6 u_4 e_5 => ?_)
  subst e_5
  refine jy_icmp_eq (pc' := 1084) (tgt := 2053) F dL_law_1081 (by decide) rfl (fun _ => ?_) (fun h => absurd h (by decide))
  refine jy_iinc (pc' := 2056) (v := 6) (lv' := [(3, .int 6), (2, .ref m0), (1, .ref h0), (0, .ref b)]) F 0 dL_law_2053 rfl (by decide) (by decide) rfl rfl ?_
  refine jy_goto (tgt := 18) F dL_law_2056 (by decide) ?_
  refine jy_iload_n (pc' := 19) F 0 dL_law_18 rfl rfl rfl ?_
  refine jy_aload_n (pc' := 20) F 3 dL_law_19 rfl rfl rfl ?_
  refine jy_slen (pc' := 21) (v := 6) F hX hbl hbA dL_law_20 rfl rfl ?_
  refine jy_bipush (pc' := 23) (v := 6) F dL_law_21 (by decide) rfl ?_
  refine jy_isub (pc' := 24) (v := 0) F dL_law_23 (by decide) rfl ?_
  refine jy_icmp_gt (pc' := 27) (tgt := 2059) F dL_law_24 (by decide) rfl (fun _ => ?_) (fun h => absurd h (by decide))
  refine jy_iconst (pc' := 2060) (v := 1) F dL_law_2059 (by decide) rfl ?_
  exact jy_lawret F hr hlocks (by decide) (by decide) dL_law_2060
set_option maxHeartbeats 4000000 in
set_option maxRecDepth 100000 in
theorem lc_depth {p : Program} {e : Env} {s : State} {m : MethodId} {below : List Frame} {meth : Method} {c : Code} (l : Launch) {b : Nat} {sq : Nat → Int32} (C0 : lw_At p s m meth c b 6 sq) (D : va_G) (k : jK) (F : jy_F p m c code 4 s #[Value.ref b] lw_tbl R_law D vwCl (jT k)) (hN : jy_N jW s) (h0 : Nat) (a2 : Nat) (a4 : Nat) (a5 : Nat) (a6 : Nat) (a7 : Nat) (a8 : Nat) (a9 : Nat) (a10 : Nat) (t0 : Nat) (s0 : Nat) (t1 : Nat) (t2 : Nat) (t3 : Nat) (fp : Nat → Int32) (m0 : Nat) (b1 : Nat) (b2 : Nat) (b3 : Nat) (b4 : Nat) (b5 : Nat) (b6 : Nat) (b7 : Nat) (w0 : Nat) (w1 : Nat) (w2 : Nat) (w3 : Nat) (w4 : Nat) (w5 : Nat) (w6 : Nat) (w7 : Nat) (w8 : Nat) (w9 : Nat) (w10 : Nat) (w11 : Nat) (w12 : Nat) (w13 : Nat) (w14 : Nat) (w15 : Nat) (w16 : Nat) (w17 : Nat) (w18 : Nat) (w19 : Nat) (w20 : Nat) (w21 : Nat) (w22 : Nat) (fm : Nat → Int32) (hp : ∀ j, j < 4 → fp j = -1) (hm : ∀ j, j < 4 → fm j = -1) : JJ p l e room_1 s m #[Value.ref b] below meth c (lw_Z below #[Value.ref b] s) 4 D vwCl (fun q => s.heap.size ≤ q) (va_S (fun q => s.heap.size ≤ q) s.heap) 194 18023 [(h0, .inr (10, [.int 0, .long 0, .long 1, .ref t0, .ref a2, .ref s0, .ref a4, .int 0, .ref a5, .ref a6, .ref a7, .ref a8, .ref a9, .ref a10, .int 0])), (t0, .inr (8, [.ref t1, .ref t2, .ref t3])), (t3, .inl (k.2.1, 4, .inl fp)), (m0, .inr (11, [.ref b1, .ref b2, .int 0, .long 0, .long 1, .ref b3, .ref b4, .ref b5, .ref b6, .ref b7, .int 0, .int 0, .int 0, .int 0, .int 0, .int 0, .int (-1), .int (-1), .int 0, .int 0, .ref w0, .ref w1, .ref w2, .ref w3, .ref w4, .ref w5, .ref w6, .ref w7, .ref w8, .ref w9, .int 0, .int 0, .int 0, .ref w10, .ref w11, .int 0, .ref w12, .ref w13, .ref w14, .ref w15, .ref w16, .ref w17, .ref w18, .ref w19, .ref w20, .int 0, .ref w21, .ref w22, .int 0, .int 0, .int 0])), (b4, .inl (k.2.1, 4, .inl fm))] 1086 [(3, .int 0), (2, .ref m0), (1, .ref h0), (0, .ref b)] [] := by
  obtain ⟨hx, hb, hr, hml, hown, hts, hX, hbl, hlocks, hgv⟩ := id C0
  have hA : ∀ q : Nat, s.heap.size ≤ q → (fun q : Nat => s.heap.size ≤ q) q := fun _ h => h
  have hbA : ¬ (fun q : Nat => s.heap.size ≤ q) b := Nat.not_le.mpr hbl
  refine jy_aload_n (pc' := 1087) F 2 dL_law_1086 rfl rfl rfl ?_
  refine jy_aload_n (pc' := 1088) F 3 dL_law_1087 rfl rfl rfl ?_
  refine jy_iload_n (pc' := 1089) F 0 dL_law_1088 rfl rfl rfl ?_
  refine jy_iconst (pc' := 1090) (v := 1) F dL_law_1089 (by decide) rfl ?_
  refine jy_iadd (pc' := 1091) (v := 1) F dL_law_1090 (by decide) rfl ?_
  refine jy_sld (pc' := 1092) (v := (sq 1)) F hX hbl hbA dL_law_1091 (vp_in_nI (n := 1) (by decide) (by decide)) rfl rfl ?_
  refine jy_aload_n (pc' := 1093) F 3 dL_law_1092 rfl rfl rfl ?_
  refine jy_iload_n (pc' := 1094) F 0 dL_law_1093 rfl rfl rfl ?_
  refine jy_iconst (pc' := 1095) (v := 2) F dL_law_1094 (by decide) rfl ?_
  refine jy_iadd (pc' := 1096) (v := 2) F dL_law_1095 (by decide) rfl ?_
  refine jy_sld (pc' := 1097) (v := (sq 2)) F hX hbl hbA dL_law_1096 (vp_in_nI (n := 2) (by decide) (by decide)) rfl rfl ?_
  refine jy_aload_n (pc' := 1098) F 3 dL_law_1097 rfl rfl rfl ?_
  refine jy_iload_n (pc' := 1099) F 0 dL_law_1098 rfl rfl rfl ?_
  refine jy_iconst (pc' := 1100) (v := 3) F dL_law_1099 (by decide) rfl ?_
  refine jy_iadd (pc' := 1101) (v := 3) F dL_law_1100 (by decide) rfl ?_
  refine jy_sld (pc' := 1102) (v := (sq 3)) F hX hbl hbA dL_law_1101 (vp_in_nI (n := 3) (by decide) (by decide)) rfl rfl ?_
  refine jy_calli (pc' := 1105) (cells' := 194) (slots' := 18023) (wr := [(m0, .inr (11, [.ref b1, .ref b2, .int 0, .long 0, .long 1, .ref b3, .ref b4, .ref b5, .ref b6, .ref b7, .int 0, .int 0, .int 0, .int 0, .int 0, .int 0, .int (-1), .int (-1), .int 0, .int 0, .ref w0, .ref w1, .ref w2, .ref w3, .ref w4, .ref w5, .ref w6, .ref w7, .ref w8, .ref w9, .int 0, .int 0, .int 0, .ref w10, .ref w11, .int 0, .ref w12, .ref w13, .ref w14, .ref w15, .ref w16, .ref w17, .ref w18, .ref w19, .ref w20, .int 0, .ref w21, .ref w22, .int 0, .int 0, .int 0])), (b4, .inl (k.2.1, 4, .inl fm))]) hA [0, 1, 2] [3, 4] rfl rfl (by decide) (by decide) (jy_runV (As := [.int (sq 1), .int (sq 2), .int (sq 3)]) (b := h0) (q0 := 0) (ci := 10) (C := RX11) (T := TX11) (N := 15) (st := []) F hN (fun sz => c_X11_depth l D k h0 a2 a4 a5 a6 a7 a8 a9 a10 t0 s0 t1 t2 t3 fp (sq 1) (sq 2) (sq 3) sz (hp)) (jy_cV F gl_c_X11_depth rfl hdX11_depth (lm_171) (lm_1176) (lm_1177) (lm_1178) rfl rfl ⟨by decide, by decide⟩) rfl rfl [0, 1, 2] rfl (by decide) rfl rfl (Nat.le_of_ble_eq_true rfl) dL_law_1102 ⟨by decide, by decide⟩) rfl rfl rfl (fun r_3 u_1 e_2 => ?_)
  subst e_2
  refine jy_aload_n (pc' := 1106) F 1 dL_law_1105 rfl rfl rfl ?_
  refine jy_aload_n (pc' := 1107) F 3 dL_law_1106 rfl rfl rfl ?_
  refine jy_iload_n (pc' := 1108) F 0 dL_law_1107 rfl rfl rfl ?_
  refine jy_iconst (pc' := 1109) (v := 1) F dL_law_1108 (by decide) rfl ?_
  refine jy_iadd (pc' := 1110) (v := 1) F dL_law_1109 (by decide) rfl ?_
  refine jy_sld (pc' := 1111) (v := (sq 1)) F hX hbl hbA dL_law_1110 (vp_in_nI (n := 1) (by decide) (by decide)) rfl rfl ?_
  refine jy_aload_n (pc' := 1112) F 3 dL_law_1111 rfl rfl rfl ?_
  refine jy_iload_n (pc' := 1113) F 0 dL_law_1112 rfl rfl rfl ?_
  refine jy_iconst (pc' := 1114) (v := 2) F dL_law_1113 (by decide) rfl ?_
  refine jy_iadd (pc' := 1115) (v := 2) F dL_law_1114 (by decide) rfl ?_
  refine jy_sld (pc' := 1116) (v := (sq 2)) F hX hbl hbA dL_law_1115 (vp_in_nI (n := 2) (by decide) (by decide)) rfl rfl ?_
  refine jy_aload_n (pc' := 1117) F 3 dL_law_1116 rfl rfl rfl ?_
  refine jy_iload_n (pc' := 1118) F 0 dL_law_1117 rfl rfl rfl ?_
  refine jy_iconst (pc' := 1119) (v := 3) F dL_law_1118 (by decide) rfl ?_
  refine jy_iadd (pc' := 1120) (v := 3) F dL_law_1119 (by decide) rfl ?_
  refine jy_sld (pc' := 1121) (v := (sq 3)) F hX hbl hbA dL_law_1120 (vp_in_nI (n := 3) (by decide) (by decide)) rfl rfl ?_
  refine jy_calli (pc' := 1124) (cells' := 194) (slots' := 18023) (wr := []) hA [0, 1] [] rfl rfl (by decide) (by decide) (jy_runV (As := [.int (sq 1), .int (sq 2), .int (sq 3)]) (b := m0) (q0 := 0) (ci := 11) (C := RX12) (T := TX12) (N := 51) (st := [.int (-1)]) F hN (fun sz => c_X12_depth l D k m0 b1 b2 b3 b4 b5 b6 b7 w0 w1 w2 w3 w4 w5 w6 w7 w8 w9 w10 w11 w12 w13 w14 w15 w16 w17 w18 w19 w20 w21 w22 fm (sq 1) (sq 2) (sq 3) sz (hm)) (jy_cV F gl_c_X12_depth rfl hdX12_depth (lm_185) (lm_2098) (lm_2099) (lm_2100) rfl rfl ⟨by decide, by decide⟩) rfl rfl [0, 1] rfl (by decide) rfl rfl (Nat.le_of_ble_eq_true rfl) dL_law_1121 ⟨by decide, by decide⟩) rfl rfl rfl (fun r_6 u_4 e_5 => ?_)
  subst e_5
  refine jy_icmp_eq (pc' := 1127) (tgt := 2053) F dL_law_1124 (by decide) rfl (fun _ => ?_) (fun h => absurd h (by decide))
  refine jy_iinc (pc' := 2056) (v := 6) (lv' := [(3, .int 6), (2, .ref m0), (1, .ref h0), (0, .ref b)]) F 0 dL_law_2053 rfl (by decide) (by decide) rfl rfl ?_
  refine jy_goto (tgt := 18) F dL_law_2056 (by decide) ?_
  refine jy_iload_n (pc' := 19) F 0 dL_law_18 rfl rfl rfl ?_
  refine jy_aload_n (pc' := 20) F 3 dL_law_19 rfl rfl rfl ?_
  refine jy_slen (pc' := 21) (v := 6) F hX hbl hbA dL_law_20 rfl rfl ?_
  refine jy_bipush (pc' := 23) (v := 6) F dL_law_21 (by decide) rfl ?_
  refine jy_isub (pc' := 24) (v := 0) F dL_law_23 (by decide) rfl ?_
  refine jy_icmp_gt (pc' := 27) (tgt := 2059) F dL_law_24 (by decide) rfl (fun _ => ?_) (fun h => absurd h (by decide))
  refine jy_iconst (pc' := 2060) (v := 1) F dL_law_2059 (by decide) rfl ?_
  exact jy_lawret F hr hlocks (by decide) (by decide) dL_law_2060
set_option maxHeartbeats 4000000 in
set_option maxRecDepth 100000 in
theorem lc_partner {p : Program} {e : Env} {s : State} {m : MethodId} {below : List Frame} {meth : Method} {c : Code} (l : Launch) {b : Nat} {sq : Nat → Int32} (C0 : lw_At p s m meth c b 6 sq) (D : va_G) (k : jK) (F : jy_F p m c code 4 s #[Value.ref b] lw_tbl R_law D vwCl (jT k)) (hN : jy_N jW s) (h0 : Nat) (a2 : Nat) (a4 : Nat) (a5 : Nat) (a6 : Nat) (a7 : Nat) (a8 : Nat) (a9 : Nat) (a10 : Nat) (t0 : Nat) (s0 : Nat) (t1 : Nat) (t2 : Nat) (t3 : Nat) (fp : Nat → Int32) (m0 : Nat) (b1 : Nat) (b2 : Nat) (b3 : Nat) (b4 : Nat) (b5 : Nat) (b6 : Nat) (b7 : Nat) (w0 : Nat) (w1 : Nat) (w2 : Nat) (w3 : Nat) (w4 : Nat) (w5 : Nat) (w6 : Nat) (w7 : Nat) (w8 : Nat) (w9 : Nat) (w10 : Nat) (w11 : Nat) (w12 : Nat) (w13 : Nat) (w14 : Nat) (w15 : Nat) (w16 : Nat) (w17 : Nat) (w18 : Nat) (w19 : Nat) (w20 : Nat) (w21 : Nat) (w22 : Nat) (fm : Nat → Int32) (hp : ∀ j, j < 4 → fp j = -1) (hm : ∀ j, j < 4 → fm j = -1) : JJ p l e room_1 s m #[Value.ref b] below meth c (lw_Z below #[Value.ref b] s) 4 D vwCl (fun q => s.heap.size ≤ q) (va_S (fun q => s.heap.size ≤ q) s.heap) 194 18023 [(h0, .inr (10, [.int 0, .long 0, .long 1, .ref t0, .ref a2, .ref s0, .ref a4, .int 0, .ref a5, .ref a6, .ref a7, .ref a8, .ref a9, .ref a10, .int 0])), (t0, .inr (8, [.ref t1, .ref t2, .ref t3])), (t3, .inl (k.2.1, 4, .inl fp)), (m0, .inr (11, [.ref b1, .ref b2, .int 0, .long 0, .long 1, .ref b3, .ref b4, .ref b5, .ref b6, .ref b7, .int 0, .int 0, .int 0, .int 0, .int 0, .int 0, .int (-1), .int (-1), .int 0, .int 0, .ref w0, .ref w1, .ref w2, .ref w3, .ref w4, .ref w5, .ref w6, .ref w7, .ref w8, .ref w9, .int 0, .int 0, .int 0, .ref w10, .ref w11, .int 0, .ref w12, .ref w13, .ref w14, .ref w15, .ref w16, .ref w17, .ref w18, .ref w19, .ref w20, .int 0, .ref w21, .ref w22, .int 0, .int 0, .int 0])), (b4, .inl (k.2.1, 4, .inl fm))] 1129 [(3, .int 0), (2, .ref m0), (1, .ref h0), (0, .ref b)] [] := by
  obtain ⟨hx, hb, hr, hml, hown, hts, hX, hbl, hlocks, hgv⟩ := id C0
  have hA : ∀ q : Nat, s.heap.size ≤ q → (fun q : Nat => s.heap.size ≤ q) q := fun _ h => h
  have hbA : ¬ (fun q : Nat => s.heap.size ≤ q) b := Nat.not_le.mpr hbl
  refine jy_aload_n (pc' := 1130) F 2 dL_law_1129 rfl rfl rfl ?_
  refine jy_aload_n (pc' := 1131) F 3 dL_law_1130 rfl rfl rfl ?_
  refine jy_iload_n (pc' := 1132) F 0 dL_law_1131 rfl rfl rfl ?_
  refine jy_iconst (pc' := 1133) (v := 1) F dL_law_1132 (by decide) rfl ?_
  refine jy_iadd (pc' := 1134) (v := 1) F dL_law_1133 (by decide) rfl ?_
  refine jy_sld (pc' := 1135) (v := (sq 1)) F hX hbl hbA dL_law_1134 (vp_in_nI (n := 1) (by decide) (by decide)) rfl rfl ?_
  refine jy_aload_n (pc' := 1136) F 3 dL_law_1135 rfl rfl rfl ?_
  refine jy_iload_n (pc' := 1137) F 0 dL_law_1136 rfl rfl rfl ?_
  refine jy_iconst (pc' := 1138) (v := 2) F dL_law_1137 (by decide) rfl ?_
  refine jy_iadd (pc' := 1139) (v := 2) F dL_law_1138 (by decide) rfl ?_
  refine jy_sld (pc' := 1140) (v := (sq 2)) F hX hbl hbA dL_law_1139 (vp_in_nI (n := 2) (by decide) (by decide)) rfl rfl ?_
  refine jy_aload_n (pc' := 1141) F 3 dL_law_1140 rfl rfl rfl ?_
  refine jy_iload_n (pc' := 1142) F 0 dL_law_1141 rfl rfl rfl ?_
  refine jy_iconst (pc' := 1143) (v := 3) F dL_law_1142 (by decide) rfl ?_
  refine jy_iadd (pc' := 1144) (v := 3) F dL_law_1143 (by decide) rfl ?_
  refine jy_sld (pc' := 1145) (v := (sq 3)) F hX hbl hbA dL_law_1144 (vp_in_nI (n := 3) (by decide) (by decide)) rfl rfl ?_
  refine jy_calli (pc' := 1148) (cells' := 194) (slots' := 18023) (wr := [(m0, .inr (11, [.ref b1, .ref b2, .int 0, .long 0, .long 1, .ref b3, .ref b4, .ref b5, .ref b6, .ref b7, .int 0, .int 0, .int 0, .int 0, .int 0, .int 0, .int (-1), .int (-1), .int 0, .int 0, .ref w0, .ref w1, .ref w2, .ref w3, .ref w4, .ref w5, .ref w6, .ref w7, .ref w8, .ref w9, .int 0, .int 0, .int 0, .ref w10, .ref w11, .int 0, .ref w12, .ref w13, .ref w14, .ref w15, .ref w16, .ref w17, .ref w18, .ref w19, .ref w20, .int 0, .ref w21, .ref w22, .int 0, .int 0, .int 0])), (b4, .inl (k.2.1, 4, .inl fm))]) hA [0, 1, 2] [3, 4] rfl rfl (by decide) (by decide) (jy_runV (As := [.int (sq 1), .int (sq 2), .int (sq 3)]) (b := h0) (q0 := 0) (ci := 10) (C := RX11) (T := TX11) (N := 15) (st := []) F hN (fun sz => c_X11_partner l D k h0 a2 a4 a5 a6 a7 a8 a9 a10 t0 s0 t1 t2 t3 fp (sq 1) (sq 2) (sq 3) sz (hp)) (jy_cV F gl_c_X11_partner rfl hdX11_partner (lm_171) (lm_1185) (lm_1186) (lm_1187) rfl rfl ⟨by decide, by decide⟩) rfl rfl [0, 1, 2] rfl (by decide) rfl rfl (Nat.le_of_ble_eq_true rfl) dL_law_1145 ⟨by decide, by decide⟩) rfl rfl rfl (fun r_3 u_1 e_2 => ?_)
  subst e_2
  refine jy_aload_n (pc' := 1149) F 1 dL_law_1148 rfl rfl rfl ?_
  refine jy_aload_n (pc' := 1150) F 3 dL_law_1149 rfl rfl rfl ?_
  refine jy_iload_n (pc' := 1151) F 0 dL_law_1150 rfl rfl rfl ?_
  refine jy_iconst (pc' := 1152) (v := 1) F dL_law_1151 (by decide) rfl ?_
  refine jy_iadd (pc' := 1153) (v := 1) F dL_law_1152 (by decide) rfl ?_
  refine jy_sld (pc' := 1154) (v := (sq 1)) F hX hbl hbA dL_law_1153 (vp_in_nI (n := 1) (by decide) (by decide)) rfl rfl ?_
  refine jy_aload_n (pc' := 1155) F 3 dL_law_1154 rfl rfl rfl ?_
  refine jy_iload_n (pc' := 1156) F 0 dL_law_1155 rfl rfl rfl ?_
  refine jy_iconst (pc' := 1157) (v := 2) F dL_law_1156 (by decide) rfl ?_
  refine jy_iadd (pc' := 1158) (v := 2) F dL_law_1157 (by decide) rfl ?_
  refine jy_sld (pc' := 1159) (v := (sq 2)) F hX hbl hbA dL_law_1158 (vp_in_nI (n := 2) (by decide) (by decide)) rfl rfl ?_
  refine jy_aload_n (pc' := 1160) F 3 dL_law_1159 rfl rfl rfl ?_
  refine jy_iload_n (pc' := 1161) F 0 dL_law_1160 rfl rfl rfl ?_
  refine jy_iconst (pc' := 1162) (v := 3) F dL_law_1161 (by decide) rfl ?_
  refine jy_iadd (pc' := 1163) (v := 3) F dL_law_1162 (by decide) rfl ?_
  refine jy_sld (pc' := 1164) (v := (sq 3)) F hX hbl hbA dL_law_1163 (vp_in_nI (n := 3) (by decide) (by decide)) rfl rfl ?_
  refine jy_calli (pc' := 1167) (cells' := 194) (slots' := 18023) (wr := []) hA [0, 1] [] rfl rfl (by decide) (by decide) (jy_runV (As := [.int (sq 1), .int (sq 2), .int (sq 3)]) (b := m0) (q0 := 0) (ci := 11) (C := RX12) (T := TX12) (N := 51) (st := [.int (-1)]) F hN (fun sz => c_X12_partner l D k m0 b1 b2 b3 b4 b5 b6 b7 w0 w1 w2 w3 w4 w5 w6 w7 w8 w9 w10 w11 w12 w13 w14 w15 w16 w17 w18 w19 w20 w21 w22 fm (sq 1) (sq 2) (sq 3) sz (hm)) (jy_cV F gl_c_X12_partner rfl hdX12_partner (lm_185) (lm_2107) (lm_2108) (lm_2109) rfl rfl ⟨by decide, by decide⟩) rfl rfl [0, 1] rfl (by decide) rfl rfl (Nat.le_of_ble_eq_true rfl) dL_law_1164 ⟨by decide, by decide⟩) rfl rfl rfl (fun r_6 u_4 e_5 => ?_)
  subst e_5
  refine jy_icmp_eq (pc' := 1170) (tgt := 2053) F dL_law_1167 (by decide) rfl (fun _ => ?_) (fun h => absurd h (by decide))
  refine jy_iinc (pc' := 2056) (v := 6) (lv' := [(3, .int 6), (2, .ref m0), (1, .ref h0), (0, .ref b)]) F 0 dL_law_2053 rfl (by decide) (by decide) rfl rfl ?_
  refine jy_goto (tgt := 18) F dL_law_2056 (by decide) ?_
  refine jy_iload_n (pc' := 19) F 0 dL_law_18 rfl rfl rfl ?_
  refine jy_aload_n (pc' := 20) F 3 dL_law_19 rfl rfl rfl ?_
  refine jy_slen (pc' := 21) (v := 6) F hX hbl hbA dL_law_20 rfl rfl ?_
  refine jy_bipush (pc' := 23) (v := 6) F dL_law_21 (by decide) rfl ?_
  refine jy_isub (pc' := 24) (v := 0) F dL_law_23 (by decide) rfl ?_
  refine jy_icmp_gt (pc' := 27) (tgt := 2059) F dL_law_24 (by decide) rfl (fun _ => ?_) (fun h => absurd h (by decide))
  refine jy_iconst (pc' := 2060) (v := 1) F dL_law_2059 (by decide) rfl ?_
  exact jy_lawret F hr hlocks (by decide) (by decide) dL_law_2060
set_option maxHeartbeats 4000000 in
set_option maxRecDepth 100000 in
theorem lc_table {p : Program} {e : Env} {s : State} {m : MethodId} {below : List Frame} {meth : Method} {c : Code} (l : Launch) {b : Nat} {sq : Nat → Int32} (C0 : lw_At p s m meth c b 6 sq) (D : va_G) (k : jK) (F : jy_F p m c code 4 s #[Value.ref b] lw_tbl R_law D vwCl (jT k)) (hN : jy_N jW s) (h0 : Nat) (a2 : Nat) (a4 : Nat) (a5 : Nat) (a6 : Nat) (a7 : Nat) (a8 : Nat) (a9 : Nat) (a10 : Nat) (t0 : Nat) (s0 : Nat) (s1 : Nat) (s2 : Nat) (s3 : Nat) (m0 : Nat) (b1 : Nat) (b2 : Nat) (b3 : Nat) (b4 : Nat) (b5 : Nat) (b6 : Nat) (b7 : Nat) (w0 : Nat) (w1 : Nat) (w2 : Nat) (w3 : Nat) (w4 : Nat) (w5 : Nat) (w6 : Nat) (w7 : Nat) (w8 : Nat) (w9 : Nat) (w10 : Nat) (w11 : Nat) (w12 : Nat) (w13 : Nat) (w14 : Nat) (w15 : Nat) (w16 : Nat) (w17 : Nat) (w18 : Nat) (w19 : Nat) (w20 : Nat) (w21 : Nat) (w22 : Nat) (fa : Nat → Int32) (ha : fa 4 = -1 ∧ ∀ j, j ≠ 4 → fa j = 0) : JJ p l e room_1 s m #[Value.ref b] below meth c (lw_Z below #[Value.ref b] s) 4 D vwCl (fun q => s.heap.size ≤ q) (va_S (fun q => s.heap.size ≤ q) s.heap) 194 18023 [(h0, .inr (10, [.int 0, .long 0, .long 1, .ref t0, .ref a2, .ref s0, .ref a4, .int 0, .ref a5, .ref a6, .ref a7, .ref a8, .ref a9, .ref a10, .int 0])), (s0, .inr (4, [.int 0, .int 0, .int 0, .int 0, .ref s1, .ref s2, .ref s3])), (m0, .inr (11, [.ref b1, .ref b2, .int 0, .long 0, .long 1, .ref b3, .ref b4, .ref b5, .ref b6, .ref b7, .int 0, .int 0, .int 0, .int 0, .int 0, .int 0, .int (-1), .int (-1), .int 0, .int 0, .ref w0, .ref w1, .ref w2, .ref w3, .ref w4, .ref w5, .ref w6, .ref w7, .ref w8, .ref w9, .int 0, .int 0, .int 0, .ref w10, .ref w11, .int 0, .ref w12, .ref w13, .ref w14, .ref w15, .ref w16, .ref w17, .ref w18, .ref w19, .ref w20, .int 0, .ref w21, .ref w22, .int 0, .int 0, .int 0])), (b1, .inl (k.2.1, 1360, .inl fa))] 1172 [(3, .int 0), (2, .ref m0), (1, .ref h0), (0, .ref b)] [] := by
  obtain ⟨hx, hb, hr, hml, hown, hts, hX, hbl, hlocks, hgv⟩ := id C0
  have hA : ∀ q : Nat, s.heap.size ≤ q → (fun q : Nat => s.heap.size ≤ q) q := fun _ h => h
  have hbA : ¬ (fun q : Nat => s.heap.size ≤ q) b := Nat.not_le.mpr hbl
  refine jy_aload_n (pc' := 1173) F 2 dL_law_1172 rfl rfl rfl ?_
  refine jy_aload_n (pc' := 1174) F 3 dL_law_1173 rfl rfl rfl ?_
  refine jy_iload_n (pc' := 1175) F 0 dL_law_1174 rfl rfl rfl ?_
  refine jy_iconst (pc' := 1176) (v := 1) F dL_law_1175 (by decide) rfl ?_
  refine jy_iadd (pc' := 1177) (v := 1) F dL_law_1176 (by decide) rfl ?_
  refine jy_sld (pc' := 1178) (v := (sq 1)) F hX hbl hbA dL_law_1177 (vp_in_nI (n := 1) (by decide) (by decide)) rfl rfl ?_
  refine jy_calli (pc' := 1181) (cells' := 194) (slots' := 18023) (wr := [(m0, .inr (11, [.ref b1, .ref b2, .int 0, .long 0, .long 1, .ref b3, .ref b4, .ref b5, .ref b6, .ref b7, .int 0, .int 0, .int 0, .int 0, .int 0, .int 0, .int (-1), .int (-1), .int 0, .int 0, .ref w0, .ref w1, .ref w2, .ref w3, .ref w4, .ref w5, .ref w6, .ref w7, .ref w8, .ref w9, .int 0, .int 0, .int 0, .ref w10, .ref w11, .int 0, .ref w12, .ref w13, .ref w14, .ref w15, .ref w16, .ref w17, .ref w18, .ref w19, .ref w20, .int 0, .ref w21, .ref w22, .int 0, .int 0, .int 0])), (b1, .inl (k.2.1, 1360, .inl fa))]) hA [0, 1] [2, 3] rfl rfl (by decide) (by decide) (jy_runV (As := [.int (sq 1)]) (b := h0) (q0 := 0) (ci := 10) (C := RX11) (T := TX11) (N := 15) (st := []) F hN (fun sz => c_X11_table l D k h0 a2 a4 a5 a6 a7 a8 a9 a10 t0 s0 s1 s2 s3 (sq 1) sz ) (jy_cV F gl_c_X11_table rfl hdX11_table (lm_171) (lm_1193) (lm_1194) (lm_1195) rfl rfl ⟨by decide, by decide⟩) rfl rfl [0, 1] rfl (by decide) rfl rfl (Nat.le_of_ble_eq_true rfl) dL_law_1178 ⟨by decide, by decide⟩) rfl rfl rfl (fun r_3 u_1 e_2 => ?_)
  subst e_2
  refine jy_aload_n (pc' := 1182) F 1 dL_law_1181 rfl rfl rfl ?_
  refine jy_aload_n (pc' := 1183) F 3 dL_law_1182 rfl rfl rfl ?_
  refine jy_iload_n (pc' := 1184) F 0 dL_law_1183 rfl rfl rfl ?_
  refine jy_iconst (pc' := 1185) (v := 1) F dL_law_1184 (by decide) rfl ?_
  refine jy_iadd (pc' := 1186) (v := 1) F dL_law_1185 (by decide) rfl ?_
  refine jy_sld (pc' := 1187) (v := (sq 1)) F hX hbl hbA dL_law_1186 (vp_in_nI (n := 1) (by decide) (by decide)) rfl rfl ?_
  refine jy_calli (pc' := 1190) (cells' := 194) (slots' := 18023) (wr := []) hA [0, 1] [] rfl rfl (by decide) (by decide) (jy_runV (As := [.int (sq 1)]) (b := m0) (q0 := 0) (ci := 11) (C := RX12) (T := TX12) (N := 51) (st := [.int (-1)]) F hN (fun sz => c_X12_table l D k m0 b1 b2 b3 b4 b5 b6 b7 w0 w1 w2 w3 w4 w5 w6 w7 w8 w9 w10 w11 w12 w13 w14 w15 w16 w17 w18 w19 w20 w21 w22 fa (sq 1) sz (ha)) (jy_cV F gl_c_X12_table rfl hdX12_table (lm_185) (lm_2111) (lm_2112) (lm_2113) rfl rfl ⟨by decide, by decide⟩) rfl rfl [0, 1] rfl (by decide) rfl rfl (Nat.le_of_ble_eq_true rfl) dL_law_1187 ⟨by decide, by decide⟩) rfl rfl rfl (fun r_6 u_4 e_5 => ?_)
  subst e_5
  refine jy_icmp_eq (pc' := 1193) (tgt := 2053) F dL_law_1190 (by decide) rfl (fun _ => ?_) (fun h => absurd h (by decide))
  refine jy_iinc (pc' := 2056) (v := 6) (lv' := [(3, .int 6), (2, .ref m0), (1, .ref h0), (0, .ref b)]) F 0 dL_law_2053 rfl (by decide) (by decide) rfl rfl ?_
  refine jy_goto (tgt := 18) F dL_law_2056 (by decide) ?_
  refine jy_iload_n (pc' := 19) F 0 dL_law_18 rfl rfl rfl ?_
  refine jy_aload_n (pc' := 20) F 3 dL_law_19 rfl rfl rfl ?_
  refine jy_slen (pc' := 21) (v := 6) F hX hbl hbA dL_law_20 rfl rfl ?_
  refine jy_bipush (pc' := 23) (v := 6) F dL_law_21 (by decide) rfl ?_
  refine jy_isub (pc' := 24) (v := 0) F dL_law_23 (by decide) rfl ?_
  refine jy_icmp_gt (pc' := 27) (tgt := 2059) F dL_law_24 (by decide) rfl (fun _ => ?_) (fun h => absurd h (by decide))
  refine jy_iconst (pc' := 2060) (v := 1) F dL_law_2059 (by decide) rfl ?_
  exact jy_lawret F hr hlocks (by decide) (by decide) dL_law_2060
set_option maxHeartbeats 4000000 in
set_option maxRecDepth 100000 in
theorem lc_summary {p : Program} {e : Env} {s : State} {m : MethodId} {below : List Frame} {meth : Method} {c : Code} (l : Launch) {b : Nat} {sq : Nat → Int32} (C0 : lw_At p s m meth c b 6 sq) (D : va_G) (k : jK) (F : jy_F p m c code 4 s #[Value.ref b] lw_tbl R_law D vwCl (jT k)) (hN : jy_N jW s) (h0 : Nat) (a2 : Nat) (a4 : Nat) (a5 : Nat) (a6 : Nat) (a7 : Nat) (a8 : Nat) (a9 : Nat) (a10 : Nat) (t0 : Nat) (s0 : Nat) (s1 : Nat) (s2 : Nat) (s3 : Nat) (m0 : Nat) (b1 : Nat) (b2 : Nat) (b3 : Nat) (b4 : Nat) (b5 : Nat) (b6 : Nat) (b7 : Nat) (w0 : Nat) (w1 : Nat) (w2 : Nat) (w3 : Nat) (w4 : Nat) (w5 : Nat) (w6 : Nat) (w7 : Nat) (w8 : Nat) (w9 : Nat) (w10 : Nat) (w11 : Nat) (w12 : Nat) (w13 : Nat) (w14 : Nat) (w15 : Nat) (w16 : Nat) (w17 : Nat) (w18 : Nat) (w19 : Nat) (w20 : Nat) (w21 : Nat) (w22 : Nat) (fa : Nat → Int32) (ha : fa 4 = -1 ∧ ∀ j, j ≠ 4 → fa j = 0) : JJ p l e room_1 s m #[Value.ref b] below meth c (lw_Z below #[Value.ref b] s) 4 D vwCl (fun q => s.heap.size ≤ q) (va_S (fun q => s.heap.size ≤ q) s.heap) 194 18023 [(h0, .inr (10, [.int 0, .long 0, .long 1, .ref t0, .ref a2, .ref s0, .ref a4, .int 0, .ref a5, .ref a6, .ref a7, .ref a8, .ref a9, .ref a10, .int 0])), (s0, .inr (4, [.int 0, .int 0, .int 0, .int 0, .ref s1, .ref s2, .ref s3])), (m0, .inr (11, [.ref b1, .ref b2, .int 0, .long 0, .long 1, .ref b3, .ref b4, .ref b5, .ref b6, .ref b7, .int 0, .int 0, .int 0, .int 0, .int 0, .int 0, .int (-1), .int (-1), .int 0, .int 0, .ref w0, .ref w1, .ref w2, .ref w3, .ref w4, .ref w5, .ref w6, .ref w7, .ref w8, .ref w9, .int 0, .int 0, .int 0, .ref w10, .ref w11, .int 0, .ref w12, .ref w13, .ref w14, .ref w15, .ref w16, .ref w17, .ref w18, .ref w19, .ref w20, .int 0, .ref w21, .ref w22, .int 0, .int 0, .int 0])), (b1, .inl (k.2.1, 1360, .inl fa))] 1195 [(3, .int 0), (2, .ref m0), (1, .ref h0), (0, .ref b)] [] := by
  obtain ⟨hx, hb, hr, hml, hown, hts, hX, hbl, hlocks, hgv⟩ := id C0
  have hA : ∀ q : Nat, s.heap.size ≤ q → (fun q : Nat => s.heap.size ≤ q) q := fun _ h => h
  have hbA : ¬ (fun q : Nat => s.heap.size ≤ q) b := Nat.not_le.mpr hbl
  refine jy_aload_n (pc' := 1196) F 2 dL_law_1195 rfl rfl rfl ?_
  refine jy_aload_n (pc' := 1197) F 3 dL_law_1196 rfl rfl rfl ?_
  refine jy_iload_n (pc' := 1198) F 0 dL_law_1197 rfl rfl rfl ?_
  refine jy_iconst (pc' := 1199) (v := 1) F dL_law_1198 (by decide) rfl ?_
  refine jy_iadd (pc' := 1200) (v := 1) F dL_law_1199 (by decide) rfl ?_
  refine jy_sld (pc' := 1201) (v := (sq 1)) F hX hbl hbA dL_law_1200 (vp_in_nI (n := 1) (by decide) (by decide)) rfl rfl ?_
  refine jy_aload_n (pc' := 1202) F 3 dL_law_1201 rfl rfl rfl ?_
  refine jy_iload_n (pc' := 1203) F 0 dL_law_1202 rfl rfl rfl ?_
  refine jy_iconst (pc' := 1204) (v := 2) F dL_law_1203 (by decide) rfl ?_
  refine jy_iadd (pc' := 1205) (v := 2) F dL_law_1204 (by decide) rfl ?_
  refine jy_sld (pc' := 1206) (v := (sq 2)) F hX hbl hbA dL_law_1205 (vp_in_nI (n := 2) (by decide) (by decide)) rfl rfl ?_
  refine jy_aload_n (pc' := 1207) F 3 dL_law_1206 rfl rfl rfl ?_
  refine jy_iload_n (pc' := 1208) F 0 dL_law_1207 rfl rfl rfl ?_
  refine jy_iconst (pc' := 1209) (v := 3) F dL_law_1208 (by decide) rfl ?_
  refine jy_iadd (pc' := 1210) (v := 3) F dL_law_1209 (by decide) rfl ?_
  refine jy_sld (pc' := 1211) (v := (sq 3)) F hX hbl hbA dL_law_1210 (vp_in_nI (n := 3) (by decide) (by decide)) rfl rfl ?_
  refine jy_calli (pc' := 1214) (cells' := 194) (slots' := 18023) (wr := [(m0, .inr (11, [.ref b1, .ref b2, .int 0, .long 0, .long 1, .ref b3, .ref b4, .ref b5, .ref b6, .ref b7, .int 0, .int 0, .int 0, .int 0, .int 0, .int 0, .int (-1), .int (-1), .int 0, .int 0, .ref w0, .ref w1, .ref w2, .ref w3, .ref w4, .ref w5, .ref w6, .ref w7, .ref w8, .ref w9, .int 0, .int 0, .int 0, .ref w10, .ref w11, .int 0, .ref w12, .ref w13, .ref w14, .ref w15, .ref w16, .ref w17, .ref w18, .ref w19, .ref w20, .int 0, .ref w21, .ref w22, .int 0, .int 0, .int 0])), (b1, .inl (k.2.1, 1360, .inl fa))]) hA [0, 1] [2, 3] rfl rfl (by decide) (by decide) (jy_runV (As := [.int (sq 1), .int (sq 2), .int (sq 3)]) (b := h0) (q0 := 0) (ci := 10) (C := RX11) (T := TX11) (N := 15) (st := []) F hN (fun sz => c_X11_summary l D k h0 a2 a4 a5 a6 a7 a8 a9 a10 t0 s0 s1 s2 s3 (sq 1) (sq 2) (sq 3) sz ) (jy_cV F gl_c_X11_summary rfl hdX11_summary (lm_171) (lm_1241) (lm_1242) (lm_1243) rfl rfl ⟨by decide, by decide⟩) rfl rfl [0, 1] rfl (by decide) rfl rfl (Nat.le_of_ble_eq_true rfl) dL_law_1211 ⟨by decide, by decide⟩) rfl rfl rfl (fun r_3 u_1 e_2 => ?_)
  subst e_2
  refine jy_aload_n (pc' := 1215) F 1 dL_law_1214 rfl rfl rfl ?_
  refine jy_aload_n (pc' := 1216) F 3 dL_law_1215 rfl rfl rfl ?_
  refine jy_iload_n (pc' := 1217) F 0 dL_law_1216 rfl rfl rfl ?_
  refine jy_iconst (pc' := 1218) (v := 1) F dL_law_1217 (by decide) rfl ?_
  refine jy_iadd (pc' := 1219) (v := 1) F dL_law_1218 (by decide) rfl ?_
  refine jy_sld (pc' := 1220) (v := (sq 1)) F hX hbl hbA dL_law_1219 (vp_in_nI (n := 1) (by decide) (by decide)) rfl rfl ?_
  refine jy_aload_n (pc' := 1221) F 3 dL_law_1220 rfl rfl rfl ?_
  refine jy_iload_n (pc' := 1222) F 0 dL_law_1221 rfl rfl rfl ?_
  refine jy_iconst (pc' := 1223) (v := 2) F dL_law_1222 (by decide) rfl ?_
  refine jy_iadd (pc' := 1224) (v := 2) F dL_law_1223 (by decide) rfl ?_
  refine jy_sld (pc' := 1225) (v := (sq 2)) F hX hbl hbA dL_law_1224 (vp_in_nI (n := 2) (by decide) (by decide)) rfl rfl ?_
  refine jy_aload_n (pc' := 1226) F 3 dL_law_1225 rfl rfl rfl ?_
  refine jy_iload_n (pc' := 1227) F 0 dL_law_1226 rfl rfl rfl ?_
  refine jy_iconst (pc' := 1228) (v := 3) F dL_law_1227 (by decide) rfl ?_
  refine jy_iadd (pc' := 1229) (v := 3) F dL_law_1228 (by decide) rfl ?_
  refine jy_sld (pc' := 1230) (v := (sq 3)) F hX hbl hbA dL_law_1229 (vp_in_nI (n := 3) (by decide) (by decide)) rfl rfl ?_
  refine jy_calli (pc' := 1233) (cells' := 194) (slots' := 18023) (wr := []) hA [0, 1] [] rfl rfl (by decide) (by decide) (jy_runV (As := [.int (sq 1), .int (sq 2), .int (sq 3)]) (b := m0) (q0 := 0) (ci := 11) (C := RX12) (T := TX12) (N := 51) (st := [.int (-1)]) F hN (fun sz => c_X12_summary l D k m0 b1 b2 b3 b4 b5 b6 b7 w0 w1 w2 w3 w4 w5 w6 w7 w8 w9 w10 w11 w12 w13 w14 w15 w16 w17 w18 w19 w20 w21 w22 fa (sq 1) (sq 2) (sq 3) sz (ha)) (jy_cV F gl_c_X12_summary rfl hdX12_summary (lm_185) (lm_2139) (lm_2140) (lm_2141) rfl rfl ⟨by decide, by decide⟩) rfl rfl [0, 1] rfl (by decide) rfl rfl (Nat.le_of_ble_eq_true rfl) dL_law_1230 ⟨by decide, by decide⟩) rfl rfl rfl (fun r_6 u_4 e_5 => ?_)
  subst e_5
  refine jy_icmp_eq (pc' := 1236) (tgt := 2053) F dL_law_1233 (by decide) rfl (fun _ => ?_) (fun h => absurd h (by decide))
  refine jy_iinc (pc' := 2056) (v := 6) (lv' := [(3, .int 6), (2, .ref m0), (1, .ref h0), (0, .ref b)]) F 0 dL_law_2053 rfl (by decide) (by decide) rfl rfl ?_
  refine jy_goto (tgt := 18) F dL_law_2056 (by decide) ?_
  refine jy_iload_n (pc' := 19) F 0 dL_law_18 rfl rfl rfl ?_
  refine jy_aload_n (pc' := 20) F 3 dL_law_19 rfl rfl rfl ?_
  refine jy_slen (pc' := 21) (v := 6) F hX hbl hbA dL_law_20 rfl rfl ?_
  refine jy_bipush (pc' := 23) (v := 6) F dL_law_21 (by decide) rfl ?_
  refine jy_isub (pc' := 24) (v := 0) F dL_law_23 (by decide) rfl ?_
  refine jy_icmp_gt (pc' := 27) (tgt := 2059) F dL_law_24 (by decide) rfl (fun _ => ?_) (fun h => absurd h (by decide))
  refine jy_iconst (pc' := 2060) (v := 1) F dL_law_2059 (by decide) rfl ?_
  exact jy_lawret F hr hlocks (by decide) (by decide) dL_law_2060
set_option maxHeartbeats 4000000 in
set_option maxRecDepth 100000 in
theorem lc_next {p : Program} {e : Env} {s : State} {m : MethodId} {below : List Frame} {meth : Method} {c : Code} (l : Launch) {b : Nat} {sq : Nat → Int32} (C0 : lw_At p s m meth c b 6 sq) (D : va_G) (k : jK) (F : jy_F p m c code 4 s #[Value.ref b] lw_tbl R_law D vwCl (jT k)) (hN : jy_N jW s) (h0 : Nat) (a2 : Nat) (a4 : Nat) (a5 : Nat) (a6 : Nat) (a7 : Nat) (a8 : Nat) (a9 : Nat) (a10 : Nat) (t0 : Nat) (s0 : Nat) (s1 : Nat) (s2 : Nat) (s3 : Nat) (m0 : Nat) (b1 : Nat) (b2 : Nat) (b3 : Nat) (b4 : Nat) (b5 : Nat) (b6 : Nat) (b7 : Nat) (w0 : Nat) (w1 : Nat) (w2 : Nat) (w3 : Nat) (w4 : Nat) (w5 : Nat) (w6 : Nat) (w7 : Nat) (w8 : Nat) (w9 : Nat) (w10 : Nat) (w11 : Nat) (w12 : Nat) (w13 : Nat) (w14 : Nat) (w15 : Nat) (w16 : Nat) (w17 : Nat) (w18 : Nat) (w19 : Nat) (w20 : Nat) (w21 : Nat) (w22 : Nat) (fa : Nat → Int32) (ha : fa 4 = -1 ∧ ∀ j, j ≠ 4 → fa j = 0) : JJ p l e room_1 s m #[Value.ref b] below meth c (lw_Z below #[Value.ref b] s) 4 D vwCl (fun q => s.heap.size ≤ q) (va_S (fun q => s.heap.size ≤ q) s.heap) 194 18023 [(h0, .inr (10, [.int 0, .long 0, .long 1, .ref t0, .ref a2, .ref s0, .ref a4, .int 0, .ref a5, .ref a6, .ref a7, .ref a8, .ref a9, .ref a10, .int 0])), (s0, .inr (4, [.int 0, .int 0, .int 0, .int 0, .ref s1, .ref s2, .ref s3])), (m0, .inr (11, [.ref b1, .ref b2, .int 0, .long 0, .long 1, .ref b3, .ref b4, .ref b5, .ref b6, .ref b7, .int 0, .int 0, .int 0, .int 0, .int 0, .int 0, .int (-1), .int (-1), .int 0, .int 0, .ref w0, .ref w1, .ref w2, .ref w3, .ref w4, .ref w5, .ref w6, .ref w7, .ref w8, .ref w9, .int 0, .int 0, .int 0, .ref w10, .ref w11, .int 0, .ref w12, .ref w13, .ref w14, .ref w15, .ref w16, .ref w17, .ref w18, .ref w19, .ref w20, .int 0, .ref w21, .ref w22, .int 0, .int 0, .int 0])), (b1, .inl (k.2.1, 1360, .inl fa))] 1238 [(3, .int 0), (2, .ref m0), (1, .ref h0), (0, .ref b)] [] := by
  obtain ⟨hx, hb, hr, hml, hown, hts, hX, hbl, hlocks, hgv⟩ := id C0
  have hA : ∀ q : Nat, s.heap.size ≤ q → (fun q : Nat => s.heap.size ≤ q) q := fun _ h => h
  have hbA : ¬ (fun q : Nat => s.heap.size ≤ q) b := Nat.not_le.mpr hbl
  refine jy_aload_n (pc' := 1239) F 2 dL_law_1238 rfl rfl rfl ?_
  refine jy_aload_n (pc' := 1240) F 3 dL_law_1239 rfl rfl rfl ?_
  refine jy_iload_n (pc' := 1241) F 0 dL_law_1240 rfl rfl rfl ?_
  refine jy_iconst (pc' := 1242) (v := 1) F dL_law_1241 (by decide) rfl ?_
  refine jy_iadd (pc' := 1243) (v := 1) F dL_law_1242 (by decide) rfl ?_
  refine jy_sld (pc' := 1244) (v := (sq 1)) F hX hbl hbA dL_law_1243 (vp_in_nI (n := 1) (by decide) (by decide)) rfl rfl ?_
  refine jy_aload_n (pc' := 1245) F 3 dL_law_1244 rfl rfl rfl ?_
  refine jy_iload_n (pc' := 1246) F 0 dL_law_1245 rfl rfl rfl ?_
  refine jy_iconst (pc' := 1247) (v := 2) F dL_law_1246 (by decide) rfl ?_
  refine jy_iadd (pc' := 1248) (v := 2) F dL_law_1247 (by decide) rfl ?_
  refine jy_sld (pc' := 1249) (v := (sq 2)) F hX hbl hbA dL_law_1248 (vp_in_nI (n := 2) (by decide) (by decide)) rfl rfl ?_
  refine jy_aload_n (pc' := 1250) F 3 dL_law_1249 rfl rfl rfl ?_
  refine jy_iload_n (pc' := 1251) F 0 dL_law_1250 rfl rfl rfl ?_
  refine jy_iconst (pc' := 1252) (v := 3) F dL_law_1251 (by decide) rfl ?_
  refine jy_iadd (pc' := 1253) (v := 3) F dL_law_1252 (by decide) rfl ?_
  refine jy_sld (pc' := 1254) (v := (sq 3)) F hX hbl hbA dL_law_1253 (vp_in_nI (n := 3) (by decide) (by decide)) rfl rfl ?_
  refine jy_calli (pc' := 1257) (cells' := 194) (slots' := 18023) (wr := [(m0, .inr (11, [.ref b1, .ref b2, .int 0, .long 0, .long 1, .ref b3, .ref b4, .ref b5, .ref b6, .ref b7, .int 0, .int 0, .int 0, .int 0, .int 0, .int 0, .int (-1), .int (-1), .int 0, .int 0, .ref w0, .ref w1, .ref w2, .ref w3, .ref w4, .ref w5, .ref w6, .ref w7, .ref w8, .ref w9, .int 0, .int 0, .int 0, .ref w10, .ref w11, .int 0, .ref w12, .ref w13, .ref w14, .ref w15, .ref w16, .ref w17, .ref w18, .ref w19, .ref w20, .int 0, .ref w21, .ref w22, .int 0, .int 0, .int 0])), (b1, .inl (k.2.1, 1360, .inl fa))]) hA [0, 1] [2, 3] rfl rfl (by decide) (by decide) (jy_runV (As := [.int (sq 1), .int (sq 2), .int (sq 3)]) (b := h0) (q0 := 0) (ci := 10) (C := RX11) (T := TX11) (N := 15) (st := []) F hN (fun sz => c_X11_next l D k h0 a2 a4 a5 a6 a7 a8 a9 a10 t0 s0 s1 s2 s3 (sq 1) (sq 2) (sq 3) sz ) (jy_cV F gl_c_X11_next rfl hdX11_next (lm_171) (lm_1249) (lm_1250) (lm_1251) rfl rfl ⟨by decide, by decide⟩) rfl rfl [0, 1] rfl (by decide) rfl rfl (Nat.le_of_ble_eq_true rfl) dL_law_1254 ⟨by decide, by decide⟩) rfl rfl rfl (fun r_3 u_1 e_2 => ?_)
  subst e_2
  refine jy_aload_n (pc' := 1258) F 1 dL_law_1257 rfl rfl rfl ?_
  refine jy_aload_n (pc' := 1259) F 3 dL_law_1258 rfl rfl rfl ?_
  refine jy_iload_n (pc' := 1260) F 0 dL_law_1259 rfl rfl rfl ?_
  refine jy_iconst (pc' := 1261) (v := 1) F dL_law_1260 (by decide) rfl ?_
  refine jy_iadd (pc' := 1262) (v := 1) F dL_law_1261 (by decide) rfl ?_
  refine jy_sld (pc' := 1263) (v := (sq 1)) F hX hbl hbA dL_law_1262 (vp_in_nI (n := 1) (by decide) (by decide)) rfl rfl ?_
  refine jy_aload_n (pc' := 1264) F 3 dL_law_1263 rfl rfl rfl ?_
  refine jy_iload_n (pc' := 1265) F 0 dL_law_1264 rfl rfl rfl ?_
  refine jy_iconst (pc' := 1266) (v := 2) F dL_law_1265 (by decide) rfl ?_
  refine jy_iadd (pc' := 1267) (v := 2) F dL_law_1266 (by decide) rfl ?_
  refine jy_sld (pc' := 1268) (v := (sq 2)) F hX hbl hbA dL_law_1267 (vp_in_nI (n := 2) (by decide) (by decide)) rfl rfl ?_
  refine jy_aload_n (pc' := 1269) F 3 dL_law_1268 rfl rfl rfl ?_
  refine jy_iload_n (pc' := 1270) F 0 dL_law_1269 rfl rfl rfl ?_
  refine jy_iconst (pc' := 1271) (v := 3) F dL_law_1270 (by decide) rfl ?_
  refine jy_iadd (pc' := 1272) (v := 3) F dL_law_1271 (by decide) rfl ?_
  refine jy_sld (pc' := 1273) (v := (sq 3)) F hX hbl hbA dL_law_1272 (vp_in_nI (n := 3) (by decide) (by decide)) rfl rfl ?_
  refine jy_calli (pc' := 1276) (cells' := 194) (slots' := 18023) (wr := []) hA [0, 1] [] rfl rfl (by decide) (by decide) (jy_runV (As := [.int (sq 1), .int (sq 2), .int (sq 3)]) (b := m0) (q0 := 0) (ci := 11) (C := RX12) (T := TX12) (N := 51) (st := [.int (-1)]) F hN (fun sz => c_X12_next l D k m0 b1 b2 b3 b4 b5 b6 b7 w0 w1 w2 w3 w4 w5 w6 w7 w8 w9 w10 w11 w12 w13 w14 w15 w16 w17 w18 w19 w20 w21 w22 fa (sq 1) (sq 2) (sq 3) sz (ha)) (jy_cV F gl_c_X12_next rfl hdX12_next (lm_185) (lm_2147) (lm_2148) (lm_2149) rfl rfl ⟨by decide, by decide⟩) rfl rfl [0, 1] rfl (by decide) rfl rfl (Nat.le_of_ble_eq_true rfl) dL_law_1273 ⟨by decide, by decide⟩) rfl rfl rfl (fun r_6 u_4 e_5 => ?_)
  subst e_5
  refine jy_icmp_eq (pc' := 1279) (tgt := 2053) F dL_law_1276 (by decide) rfl (fun _ => ?_) (fun h => absurd h (by decide))
  refine jy_iinc (pc' := 2056) (v := 6) (lv' := [(3, .int 6), (2, .ref m0), (1, .ref h0), (0, .ref b)]) F 0 dL_law_2053 rfl (by decide) (by decide) rfl rfl ?_
  refine jy_goto (tgt := 18) F dL_law_2056 (by decide) ?_
  refine jy_iload_n (pc' := 19) F 0 dL_law_18 rfl rfl rfl ?_
  refine jy_aload_n (pc' := 20) F 3 dL_law_19 rfl rfl rfl ?_
  refine jy_slen (pc' := 21) (v := 6) F hX hbl hbA dL_law_20 rfl rfl ?_
  refine jy_bipush (pc' := 23) (v := 6) F dL_law_21 (by decide) rfl ?_
  refine jy_isub (pc' := 24) (v := 0) F dL_law_23 (by decide) rfl ?_
  refine jy_icmp_gt (pc' := 27) (tgt := 2059) F dL_law_24 (by decide) rfl (fun _ => ?_) (fun h => absurd h (by decide))
  refine jy_iconst (pc' := 2060) (v := 1) F dL_law_2059 (by decide) rfl ?_
  exact jy_lawret F hr hlocks (by decide) (by decide) dL_law_2060
set_option maxHeartbeats 4000000 in
set_option maxRecDepth 100000 in
theorem lc_nextBack {p : Program} {e : Env} {s : State} {m : MethodId} {below : List Frame} {meth : Method} {c : Code} (l : Launch) {b : Nat} {sq : Nat → Int32} (C0 : lw_At p s m meth c b 6 sq) (D : va_G) (k : jK) (F : jy_F p m c code 4 s #[Value.ref b] lw_tbl R_law D vwCl (jT k)) (hN : jy_N jW s) (h0 : Nat) (a2 : Nat) (a4 : Nat) (a5 : Nat) (a6 : Nat) (a7 : Nat) (a8 : Nat) (a9 : Nat) (a10 : Nat) (t0 : Nat) (s0 : Nat) (s1 : Nat) (s2 : Nat) (s3 : Nat) (m0 : Nat) (b1 : Nat) (b2 : Nat) (b3 : Nat) (b4 : Nat) (b5 : Nat) (b6 : Nat) (b7 : Nat) (w0 : Nat) (w1 : Nat) (w2 : Nat) (w3 : Nat) (w4 : Nat) (w5 : Nat) (w6 : Nat) (w7 : Nat) (w8 : Nat) (w9 : Nat) (w10 : Nat) (w11 : Nat) (w12 : Nat) (w13 : Nat) (w14 : Nat) (w15 : Nat) (w16 : Nat) (w17 : Nat) (w18 : Nat) (w19 : Nat) (w20 : Nat) (w21 : Nat) (w22 : Nat) (fa : Nat → Int32) (ha : fa 4 = -1 ∧ ∀ j, j ≠ 4 → fa j = 0) : JJ p l e room_1 s m #[Value.ref b] below meth c (lw_Z below #[Value.ref b] s) 4 D vwCl (fun q => s.heap.size ≤ q) (va_S (fun q => s.heap.size ≤ q) s.heap) 194 18023 [(h0, .inr (10, [.int 0, .long 0, .long 1, .ref t0, .ref a2, .ref s0, .ref a4, .int 0, .ref a5, .ref a6, .ref a7, .ref a8, .ref a9, .ref a10, .int 0])), (s0, .inr (4, [.int 0, .int 0, .int 0, .int 0, .ref s1, .ref s2, .ref s3])), (m0, .inr (11, [.ref b1, .ref b2, .int 0, .long 0, .long 1, .ref b3, .ref b4, .ref b5, .ref b6, .ref b7, .int 0, .int 0, .int 0, .int 0, .int 0, .int 0, .int (-1), .int (-1), .int 0, .int 0, .ref w0, .ref w1, .ref w2, .ref w3, .ref w4, .ref w5, .ref w6, .ref w7, .ref w8, .ref w9, .int 0, .int 0, .int 0, .ref w10, .ref w11, .int 0, .ref w12, .ref w13, .ref w14, .ref w15, .ref w16, .ref w17, .ref w18, .ref w19, .ref w20, .int 0, .ref w21, .ref w22, .int 0, .int 0, .int 0])), (b1, .inl (k.2.1, 1360, .inl fa))] 1281 [(3, .int 0), (2, .ref m0), (1, .ref h0), (0, .ref b)] [] := by
  obtain ⟨hx, hb, hr, hml, hown, hts, hX, hbl, hlocks, hgv⟩ := id C0
  have hA : ∀ q : Nat, s.heap.size ≤ q → (fun q : Nat => s.heap.size ≤ q) q := fun _ h => h
  have hbA : ¬ (fun q : Nat => s.heap.size ≤ q) b := Nat.not_le.mpr hbl
  refine jy_aload_n (pc' := 1282) F 2 dL_law_1281 rfl rfl rfl ?_
  refine jy_aload_n (pc' := 1283) F 3 dL_law_1282 rfl rfl rfl ?_
  refine jy_iload_n (pc' := 1284) F 0 dL_law_1283 rfl rfl rfl ?_
  refine jy_iconst (pc' := 1285) (v := 1) F dL_law_1284 (by decide) rfl ?_
  refine jy_iadd (pc' := 1286) (v := 1) F dL_law_1285 (by decide) rfl ?_
  refine jy_sld (pc' := 1287) (v := (sq 1)) F hX hbl hbA dL_law_1286 (vp_in_nI (n := 1) (by decide) (by decide)) rfl rfl ?_
  refine jy_aload_n (pc' := 1288) F 3 dL_law_1287 rfl rfl rfl ?_
  refine jy_iload_n (pc' := 1289) F 0 dL_law_1288 rfl rfl rfl ?_
  refine jy_iconst (pc' := 1290) (v := 2) F dL_law_1289 (by decide) rfl ?_
  refine jy_iadd (pc' := 1291) (v := 2) F dL_law_1290 (by decide) rfl ?_
  refine jy_sld (pc' := 1292) (v := (sq 2)) F hX hbl hbA dL_law_1291 (vp_in_nI (n := 2) (by decide) (by decide)) rfl rfl ?_
  refine jy_aload_n (pc' := 1293) F 3 dL_law_1292 rfl rfl rfl ?_
  refine jy_iload_n (pc' := 1294) F 0 dL_law_1293 rfl rfl rfl ?_
  refine jy_iconst (pc' := 1295) (v := 3) F dL_law_1294 (by decide) rfl ?_
  refine jy_iadd (pc' := 1296) (v := 3) F dL_law_1295 (by decide) rfl ?_
  refine jy_sld (pc' := 1297) (v := (sq 3)) F hX hbl hbA dL_law_1296 (vp_in_nI (n := 3) (by decide) (by decide)) rfl rfl ?_
  refine jy_aload_n (pc' := 1298) F 3 dL_law_1297 rfl rfl rfl ?_
  refine jy_iload_n (pc' := 1299) F 0 dL_law_1298 rfl rfl rfl ?_
  refine jy_iconst (pc' := 1300) (v := 4) F dL_law_1299 (by decide) rfl ?_
  refine jy_iadd (pc' := 1301) (v := 4) F dL_law_1300 (by decide) rfl ?_
  refine jy_sld (pc' := 1302) (v := (sq 4)) F hX hbl hbA dL_law_1301 (vp_in_nI (n := 4) (by decide) (by decide)) rfl rfl ?_
  refine jy_aload_n (pc' := 1303) F 3 dL_law_1302 rfl rfl rfl ?_
  refine jy_iload_n (pc' := 1304) F 0 dL_law_1303 rfl rfl rfl ?_
  refine jy_iconst (pc' := 1305) (v := 5) F dL_law_1304 (by decide) rfl ?_
  refine jy_iadd (pc' := 1306) (v := 5) F dL_law_1305 (by decide) rfl ?_
  refine jy_sld (pc' := 1307) (v := (sq 5)) F hX hbl hbA dL_law_1306 (vp_in_nI (n := 5) (by decide) (by decide)) rfl rfl ?_
  refine jy_calli (pc' := 1310) (cells' := 194) (slots' := 18023) (wr := [(m0, .inr (11, [.ref b1, .ref b2, .int 0, .long 0, .long 1, .ref b3, .ref b4, .ref b5, .ref b6, .ref b7, .int 0, .int 0, .int 0, .int 0, .int 0, .int 0, .int (-1), .int (-1), .int 0, .int 0, .ref w0, .ref w1, .ref w2, .ref w3, .ref w4, .ref w5, .ref w6, .ref w7, .ref w8, .ref w9, .int 0, .int 0, .int 0, .ref w10, .ref w11, .int 0, .ref w12, .ref w13, .ref w14, .ref w15, .ref w16, .ref w17, .ref w18, .ref w19, .ref w20, .int 0, .ref w21, .ref w22, .int 0, .int 0, .int 0])), (b1, .inl (k.2.1, 1360, .inl fa))]) hA [0, 1] [2, 3] rfl rfl (by decide) (by decide) (jy_runV (As := [.int (sq 1), .int (sq 2), .int (sq 3), .int (sq 4), .int (sq 5)]) (b := h0) (q0 := 0) (ci := 10) (C := RX11) (T := TX11) (N := 15) (st := []) F hN (fun sz => c_X11_nextBack l D k h0 a2 a4 a5 a6 a7 a8 a9 a10 t0 s0 s1 s2 s3 (sq 1) (sq 2) (sq 3) (sq 4) (sq 5) sz ) (jy_cV F gl_c_X11_nextBack rfl hdX11_nextBack (lm_171) (lm_1262) (lm_1263) (lm_1264) rfl rfl ⟨by decide, by decide⟩) rfl rfl [0, 1] rfl (by decide) rfl rfl (Nat.le_of_ble_eq_true rfl) dL_law_1307 ⟨by decide, by decide⟩) rfl rfl rfl (fun r_3 u_1 e_2 => ?_)
  subst e_2
  refine jy_aload_n (pc' := 1311) F 1 dL_law_1310 rfl rfl rfl ?_
  refine jy_aload_n (pc' := 1312) F 3 dL_law_1311 rfl rfl rfl ?_
  refine jy_iload_n (pc' := 1313) F 0 dL_law_1312 rfl rfl rfl ?_
  refine jy_iconst (pc' := 1314) (v := 1) F dL_law_1313 (by decide) rfl ?_
  refine jy_iadd (pc' := 1315) (v := 1) F dL_law_1314 (by decide) rfl ?_
  refine jy_sld (pc' := 1316) (v := (sq 1)) F hX hbl hbA dL_law_1315 (vp_in_nI (n := 1) (by decide) (by decide)) rfl rfl ?_
  refine jy_aload_n (pc' := 1317) F 3 dL_law_1316 rfl rfl rfl ?_
  refine jy_iload_n (pc' := 1318) F 0 dL_law_1317 rfl rfl rfl ?_
  refine jy_iconst (pc' := 1319) (v := 2) F dL_law_1318 (by decide) rfl ?_
  refine jy_iadd (pc' := 1320) (v := 2) F dL_law_1319 (by decide) rfl ?_
  refine jy_sld (pc' := 1321) (v := (sq 2)) F hX hbl hbA dL_law_1320 (vp_in_nI (n := 2) (by decide) (by decide)) rfl rfl ?_
  refine jy_aload_n (pc' := 1322) F 3 dL_law_1321 rfl rfl rfl ?_
  refine jy_iload_n (pc' := 1323) F 0 dL_law_1322 rfl rfl rfl ?_
  refine jy_iconst (pc' := 1324) (v := 3) F dL_law_1323 (by decide) rfl ?_
  refine jy_iadd (pc' := 1325) (v := 3) F dL_law_1324 (by decide) rfl ?_
  refine jy_sld (pc' := 1326) (v := (sq 3)) F hX hbl hbA dL_law_1325 (vp_in_nI (n := 3) (by decide) (by decide)) rfl rfl ?_
  refine jy_aload_n (pc' := 1327) F 3 dL_law_1326 rfl rfl rfl ?_
  refine jy_iload_n (pc' := 1328) F 0 dL_law_1327 rfl rfl rfl ?_
  refine jy_iconst (pc' := 1329) (v := 4) F dL_law_1328 (by decide) rfl ?_
  refine jy_iadd (pc' := 1330) (v := 4) F dL_law_1329 (by decide) rfl ?_
  refine jy_sld (pc' := 1331) (v := (sq 4)) F hX hbl hbA dL_law_1330 (vp_in_nI (n := 4) (by decide) (by decide)) rfl rfl ?_
  refine jy_aload_n (pc' := 1332) F 3 dL_law_1331 rfl rfl rfl ?_
  refine jy_iload_n (pc' := 1333) F 0 dL_law_1332 rfl rfl rfl ?_
  refine jy_iconst (pc' := 1334) (v := 5) F dL_law_1333 (by decide) rfl ?_
  refine jy_iadd (pc' := 1335) (v := 5) F dL_law_1334 (by decide) rfl ?_
  refine jy_sld (pc' := 1336) (v := (sq 5)) F hX hbl hbA dL_law_1335 (vp_in_nI (n := 5) (by decide) (by decide)) rfl rfl ?_
  refine jy_calli (pc' := 1339) (cells' := 194) (slots' := 18023) (wr := []) hA [0, 1] [] rfl rfl (by decide) (by decide) (jy_runV (As := [.int (sq 1), .int (sq 2), .int (sq 3), .int (sq 4), .int (sq 5)]) (b := m0) (q0 := 0) (ci := 11) (C := RX12) (T := TX12) (N := 51) (st := [.int (-1)]) F hN (fun sz => c_X12_nextBack l D k m0 b1 b2 b3 b4 b5 b6 b7 w0 w1 w2 w3 w4 w5 w6 w7 w8 w9 w10 w11 w12 w13 w14 w15 w16 w17 w18 w19 w20 w21 w22 fa (sq 1) (sq 2) (sq 3) (sq 4) (sq 5) sz (ha)) (jy_cV F gl_c_X12_nextBack rfl hdX12_nextBack (lm_185) (lm_2151) (lm_2152) (lm_2153) rfl rfl ⟨by decide, by decide⟩) rfl rfl [0, 1] rfl (by decide) rfl rfl (Nat.le_of_ble_eq_true rfl) dL_law_1336 ⟨by decide, by decide⟩) rfl rfl rfl (fun r_6 u_4 e_5 => ?_)
  subst e_5
  refine jy_icmp_eq (pc' := 1342) (tgt := 2053) F dL_law_1339 (by decide) rfl (fun _ => ?_) (fun h => absurd h (by decide))
  refine jy_iinc (pc' := 2056) (v := 6) (lv' := [(3, .int 6), (2, .ref m0), (1, .ref h0), (0, .ref b)]) F 0 dL_law_2053 rfl (by decide) (by decide) rfl rfl ?_
  refine jy_goto (tgt := 18) F dL_law_2056 (by decide) ?_
  refine jy_iload_n (pc' := 19) F 0 dL_law_18 rfl rfl rfl ?_
  refine jy_aload_n (pc' := 20) F 3 dL_law_19 rfl rfl rfl ?_
  refine jy_slen (pc' := 21) (v := 6) F hX hbl hbA dL_law_20 rfl rfl ?_
  refine jy_bipush (pc' := 23) (v := 6) F dL_law_21 (by decide) rfl ?_
  refine jy_isub (pc' := 24) (v := 0) F dL_law_23 (by decide) rfl ?_
  refine jy_icmp_gt (pc' := 27) (tgt := 2059) F dL_law_24 (by decide) rfl (fun _ => ?_) (fun h => absurd h (by decide))
  refine jy_iconst (pc' := 2060) (v := 1) F dL_law_2059 (by decide) rfl ?_
  exact jy_lawret F hr hlocks (by decide) (by decide) dL_law_2060
set_option maxHeartbeats 4000000 in
set_option maxRecDepth 100000 in
theorem lc_well {p : Program} {e : Env} {s : State} {m : MethodId} {below : List Frame} {meth : Method} {c : Code} (l : Launch) {b : Nat} {sq : Nat → Int32} (C0 : lw_At p s m meth c b 6 sq) (D : va_G) (k : jK) (F : jy_F p m c code 4 s #[Value.ref b] lw_tbl R_law D vwCl (jT k)) (hN : jy_N jW s) (h0 : Nat) (a2 : Nat) (a4 : Nat) (a5 : Nat) (a6 : Nat) (a7 : Nat) (a8 : Nat) (a9 : Nat) (a10 : Nat) (t0 : Nat) (s0 : Nat) (s1 : Nat) (s2 : Nat) (s3 : Nat) (m0 : Nat) (b1 : Nat) (b2 : Nat) (b3 : Nat) (b4 : Nat) (b5 : Nat) (b6 : Nat) (b7 : Nat) (w0 : Nat) (w1 : Nat) (w2 : Nat) (w3 : Nat) (w4 : Nat) (w5 : Nat) (w6 : Nat) (w7 : Nat) (w8 : Nat) (w9 : Nat) (w10 : Nat) (w11 : Nat) (w12 : Nat) (w13 : Nat) (w14 : Nat) (w15 : Nat) (w16 : Nat) (w17 : Nat) (w18 : Nat) (w19 : Nat) (w20 : Nat) (w21 : Nat) (w22 : Nat) (fa : Nat → Int32) (ha : fa 4 = -1 ∧ ∀ j, j ≠ 4 → fa j = 0) : JJ p l e room_1 s m #[Value.ref b] below meth c (lw_Z below #[Value.ref b] s) 4 D vwCl (fun q => s.heap.size ≤ q) (va_S (fun q => s.heap.size ≤ q) s.heap) 194 18023 [(h0, .inr (10, [.int 0, .long 0, .long 1, .ref t0, .ref a2, .ref s0, .ref a4, .int 0, .ref a5, .ref a6, .ref a7, .ref a8, .ref a9, .ref a10, .int 0])), (s0, .inr (4, [.int 0, .int 0, .int 0, .int 0, .ref s1, .ref s2, .ref s3])), (m0, .inr (11, [.ref b1, .ref b2, .int 0, .long 0, .long 1, .ref b3, .ref b4, .ref b5, .ref b6, .ref b7, .int 0, .int 0, .int 0, .int 0, .int 0, .int 0, .int (-1), .int (-1), .int 0, .int 0, .ref w0, .ref w1, .ref w2, .ref w3, .ref w4, .ref w5, .ref w6, .ref w7, .ref w8, .ref w9, .int 0, .int 0, .int 0, .ref w10, .ref w11, .int 0, .ref w12, .ref w13, .ref w14, .ref w15, .ref w16, .ref w17, .ref w18, .ref w19, .ref w20, .int 0, .ref w21, .ref w22, .int 0, .int 0, .int 0])), (b1, .inl (k.2.1, 1360, .inl fa))] 1344 [(3, .int 0), (2, .ref m0), (1, .ref h0), (0, .ref b)] [] := by
  obtain ⟨hx, hb, hr, hml, hown, hts, hX, hbl, hlocks, hgv⟩ := id C0
  have hA : ∀ q : Nat, s.heap.size ≤ q → (fun q : Nat => s.heap.size ≤ q) q := fun _ h => h
  have hbA : ¬ (fun q : Nat => s.heap.size ≤ q) b := Nat.not_le.mpr hbl
  refine jy_aload_n (pc' := 1345) F 2 dL_law_1344 rfl rfl rfl ?_
  refine jy_aload_n (pc' := 1346) F 3 dL_law_1345 rfl rfl rfl ?_
  refine jy_iload_n (pc' := 1347) F 0 dL_law_1346 rfl rfl rfl ?_
  refine jy_iconst (pc' := 1348) (v := 1) F dL_law_1347 (by decide) rfl ?_
  refine jy_iadd (pc' := 1349) (v := 1) F dL_law_1348 (by decide) rfl ?_
  refine jy_sld (pc' := 1350) (v := (sq 1)) F hX hbl hbA dL_law_1349 (vp_in_nI (n := 1) (by decide) (by decide)) rfl rfl ?_
  refine jy_aload_n (pc' := 1351) F 3 dL_law_1350 rfl rfl rfl ?_
  refine jy_iload_n (pc' := 1352) F 0 dL_law_1351 rfl rfl rfl ?_
  refine jy_iconst (pc' := 1353) (v := 2) F dL_law_1352 (by decide) rfl ?_
  refine jy_iadd (pc' := 1354) (v := 2) F dL_law_1353 (by decide) rfl ?_
  refine jy_sld (pc' := 1355) (v := (sq 2)) F hX hbl hbA dL_law_1354 (vp_in_nI (n := 2) (by decide) (by decide)) rfl rfl ?_
  refine jy_aload_n (pc' := 1356) F 3 dL_law_1355 rfl rfl rfl ?_
  refine jy_iload_n (pc' := 1357) F 0 dL_law_1356 rfl rfl rfl ?_
  refine jy_iconst (pc' := 1358) (v := 3) F dL_law_1357 (by decide) rfl ?_
  refine jy_iadd (pc' := 1359) (v := 3) F dL_law_1358 (by decide) rfl ?_
  refine jy_sld (pc' := 1360) (v := (sq 3)) F hX hbl hbA dL_law_1359 (vp_in_nI (n := 3) (by decide) (by decide)) rfl rfl ?_
  refine jy_calli (pc' := 1363) (cells' := 194) (slots' := 18023) (wr := [(m0, .inr (11, [.ref b1, .ref b2, .int 0, .long 0, .long 1, .ref b3, .ref b4, .ref b5, .ref b6, .ref b7, .int 0, .int 0, .int 0, .int 0, .int 0, .int 0, .int (-1), .int (-1), .int 0, .int 0, .ref w0, .ref w1, .ref w2, .ref w3, .ref w4, .ref w5, .ref w6, .ref w7, .ref w8, .ref w9, .int 0, .int 0, .int 0, .ref w10, .ref w11, .int 0, .ref w12, .ref w13, .ref w14, .ref w15, .ref w16, .ref w17, .ref w18, .ref w19, .ref w20, .int 0, .ref w21, .ref w22, .int 0, .int 0, .int 0])), (b1, .inl (k.2.1, 1360, .inl fa))]) hA [0, 1] [2, 3] rfl rfl (by decide) (by decide) (jy_runV (As := [.int (sq 1), .int (sq 2), .int (sq 3)]) (b := h0) (q0 := 0) (ci := 10) (C := RX11) (T := TX11) (N := 15) (st := []) F hN (fun sz => c_X11_well l D k h0 a2 a4 a5 a6 a7 a8 a9 a10 t0 s0 s1 s2 s3 (sq 1) (sq 2) (sq 3) sz ) (jy_cV F gl_c_X11_well rfl hdX11_well (lm_171) (lm_1270) (lm_1271) (lm_1272) rfl rfl ⟨by decide, by decide⟩) rfl rfl [0, 1] rfl (by decide) rfl rfl (Nat.le_of_ble_eq_true rfl) dL_law_1360 ⟨by decide, by decide⟩) rfl rfl rfl (fun r_3 u_1 e_2 => ?_)
  subst e_2
  refine jy_aload_n (pc' := 1364) F 1 dL_law_1363 rfl rfl rfl ?_
  refine jy_aload_n (pc' := 1365) F 3 dL_law_1364 rfl rfl rfl ?_
  refine jy_iload_n (pc' := 1366) F 0 dL_law_1365 rfl rfl rfl ?_
  refine jy_iconst (pc' := 1367) (v := 1) F dL_law_1366 (by decide) rfl ?_
  refine jy_iadd (pc' := 1368) (v := 1) F dL_law_1367 (by decide) rfl ?_
  refine jy_sld (pc' := 1369) (v := (sq 1)) F hX hbl hbA dL_law_1368 (vp_in_nI (n := 1) (by decide) (by decide)) rfl rfl ?_
  refine jy_aload_n (pc' := 1370) F 3 dL_law_1369 rfl rfl rfl ?_
  refine jy_iload_n (pc' := 1371) F 0 dL_law_1370 rfl rfl rfl ?_
  refine jy_iconst (pc' := 1372) (v := 2) F dL_law_1371 (by decide) rfl ?_
  refine jy_iadd (pc' := 1373) (v := 2) F dL_law_1372 (by decide) rfl ?_
  refine jy_sld (pc' := 1374) (v := (sq 2)) F hX hbl hbA dL_law_1373 (vp_in_nI (n := 2) (by decide) (by decide)) rfl rfl ?_
  refine jy_aload_n (pc' := 1375) F 3 dL_law_1374 rfl rfl rfl ?_
  refine jy_iload_n (pc' := 1376) F 0 dL_law_1375 rfl rfl rfl ?_
  refine jy_iconst (pc' := 1377) (v := 3) F dL_law_1376 (by decide) rfl ?_
  refine jy_iadd (pc' := 1378) (v := 3) F dL_law_1377 (by decide) rfl ?_
  refine jy_sld (pc' := 1379) (v := (sq 3)) F hX hbl hbA dL_law_1378 (vp_in_nI (n := 3) (by decide) (by decide)) rfl rfl ?_
  refine jy_calli (pc' := 1382) (cells' := 194) (slots' := 18023) (wr := []) hA [0, 1] [] rfl rfl (by decide) (by decide) (jy_runV (As := [.int (sq 1), .int (sq 2), .int (sq 3)]) (b := m0) (q0 := 0) (ci := 11) (C := RX12) (T := TX12) (N := 51) (st := [.int (-1)]) F hN (fun sz => c_X12_well l D k m0 b1 b2 b3 b4 b5 b6 b7 w0 w1 w2 w3 w4 w5 w6 w7 w8 w9 w10 w11 w12 w13 w14 w15 w16 w17 w18 w19 w20 w21 w22 fa (sq 1) (sq 2) (sq 3) sz (ha)) (jy_cV F gl_c_X12_well rfl hdX12_well (lm_185) (lm_2155) (lm_2156) (lm_2157) rfl rfl ⟨by decide, by decide⟩) rfl rfl [0, 1] rfl (by decide) rfl rfl (Nat.le_of_ble_eq_true rfl) dL_law_1379 ⟨by decide, by decide⟩) rfl rfl rfl (fun r_6 u_4 e_5 => ?_)
  subst e_5
  refine jy_icmp_eq (pc' := 1385) (tgt := 2053) F dL_law_1382 (by decide) rfl (fun _ => ?_) (fun h => absurd h (by decide))
  refine jy_iinc (pc' := 2056) (v := 6) (lv' := [(3, .int 6), (2, .ref m0), (1, .ref h0), (0, .ref b)]) F 0 dL_law_2053 rfl (by decide) (by decide) rfl rfl ?_
  refine jy_goto (tgt := 18) F dL_law_2056 (by decide) ?_
  refine jy_iload_n (pc' := 19) F 0 dL_law_18 rfl rfl rfl ?_
  refine jy_aload_n (pc' := 20) F 3 dL_law_19 rfl rfl rfl ?_
  refine jy_slen (pc' := 21) (v := 6) F hX hbl hbA dL_law_20 rfl rfl ?_
  refine jy_bipush (pc' := 23) (v := 6) F dL_law_21 (by decide) rfl ?_
  refine jy_isub (pc' := 24) (v := 0) F dL_law_23 (by decide) rfl ?_
  refine jy_icmp_gt (pc' := 27) (tgt := 2059) F dL_law_24 (by decide) rfl (fun _ => ?_) (fun h => absurd h (by decide))
  refine jy_iconst (pc' := 2060) (v := 1) F dL_law_2059 (by decide) rfl ?_
  exact jy_lawret F hr hlocks (by decide) (by decide) dL_law_2060
set_option maxHeartbeats 4000000 in
set_option maxRecDepth 100000 in
theorem lc_reaches {p : Program} {e : Env} {s : State} {m : MethodId} {below : List Frame} {meth : Method} {c : Code} (l : Launch) {b : Nat} {sq : Nat → Int32} (C0 : lw_At p s m meth c b 6 sq) (D : va_G) (k : jK) (F : jy_F p m c code 4 s #[Value.ref b] lw_tbl R_law D vwCl (jT k)) (hN : jy_N jW s) (h0 : Nat) (a2 : Nat) (a4 : Nat) (a5 : Nat) (a6 : Nat) (a7 : Nat) (a8 : Nat) (a9 : Nat) (a10 : Nat) (t0 : Nat) (s0 : Nat) (s1 : Nat) (s2 : Nat) (s3 : Nat) (m0 : Nat) (b1 : Nat) (b2 : Nat) (b3 : Nat) (b4 : Nat) (b5 : Nat) (b6 : Nat) (b7 : Nat) (w0 : Nat) (w1 : Nat) (w2 : Nat) (w3 : Nat) (w4 : Nat) (w5 : Nat) (w6 : Nat) (w7 : Nat) (w8 : Nat) (w9 : Nat) (w10 : Nat) (w11 : Nat) (w12 : Nat) (w13 : Nat) (w14 : Nat) (w15 : Nat) (w16 : Nat) (w17 : Nat) (w18 : Nat) (w19 : Nat) (w20 : Nat) (w21 : Nat) (w22 : Nat) (fa : Nat → Int32) (ha : fa 4 = -1 ∧ ∀ j, j ≠ 4 → fa j = 0) : JJ p l e room_1 s m #[Value.ref b] below meth c (lw_Z below #[Value.ref b] s) 4 D vwCl (fun q => s.heap.size ≤ q) (va_S (fun q => s.heap.size ≤ q) s.heap) 194 18023 [(h0, .inr (10, [.int 0, .long 0, .long 1, .ref t0, .ref a2, .ref s0, .ref a4, .int 0, .ref a5, .ref a6, .ref a7, .ref a8, .ref a9, .ref a10, .int 0])), (s0, .inr (4, [.int 0, .int 0, .int 0, .int 0, .ref s1, .ref s2, .ref s3])), (m0, .inr (11, [.ref b1, .ref b2, .int 0, .long 0, .long 1, .ref b3, .ref b4, .ref b5, .ref b6, .ref b7, .int 0, .int 0, .int 0, .int 0, .int 0, .int 0, .int (-1), .int (-1), .int 0, .int 0, .ref w0, .ref w1, .ref w2, .ref w3, .ref w4, .ref w5, .ref w6, .ref w7, .ref w8, .ref w9, .int 0, .int 0, .int 0, .ref w10, .ref w11, .int 0, .ref w12, .ref w13, .ref w14, .ref w15, .ref w16, .ref w17, .ref w18, .ref w19, .ref w20, .int 0, .ref w21, .ref w22, .int 0, .int 0, .int 0])), (b1, .inl (k.2.1, 1360, .inl fa))] 1387 [(3, .int 0), (2, .ref m0), (1, .ref h0), (0, .ref b)] [] := by
  obtain ⟨hx, hb, hr, hml, hown, hts, hX, hbl, hlocks, hgv⟩ := id C0
  have hA : ∀ q : Nat, s.heap.size ≤ q → (fun q : Nat => s.heap.size ≤ q) q := fun _ h => h
  have hbA : ¬ (fun q : Nat => s.heap.size ≤ q) b := Nat.not_le.mpr hbl
  refine jy_aload_n (pc' := 1388) F 2 dL_law_1387 rfl rfl rfl ?_
  refine jy_aload_n (pc' := 1389) F 3 dL_law_1388 rfl rfl rfl ?_
  refine jy_iload_n (pc' := 1390) F 0 dL_law_1389 rfl rfl rfl ?_
  refine jy_iconst (pc' := 1391) (v := 1) F dL_law_1390 (by decide) rfl ?_
  refine jy_iadd (pc' := 1392) (v := 1) F dL_law_1391 (by decide) rfl ?_
  refine jy_sld (pc' := 1393) (v := (sq 1)) F hX hbl hbA dL_law_1392 (vp_in_nI (n := 1) (by decide) (by decide)) rfl rfl ?_
  refine jy_calli (pc' := 1396) (cells' := 194) (slots' := 18023) (wr := [(m0, .inr (11, [.ref b1, .ref b2, .int 0, .long 0, .long 1, .ref b3, .ref b4, .ref b5, .ref b6, .ref b7, .int 0, .int 0, .int 0, .int 0, .int 0, .int 0, .int (-1), .int (-1), .int 0, .int 0, .ref w0, .ref w1, .ref w2, .ref w3, .ref w4, .ref w5, .ref w6, .ref w7, .ref w8, .ref w9, .int 0, .int 0, .int 0, .ref w10, .ref w11, .int 0, .ref w12, .ref w13, .ref w14, .ref w15, .ref w16, .ref w17, .ref w18, .ref w19, .ref w20, .int 0, .ref w21, .ref w22, .int 0, .int 0, .int 0])), (b1, .inl (k.2.1, 1360, .inl fa))]) hA [0, 1] [2, 3] rfl rfl (by decide) (by decide) (jy_runV (As := [.int (sq 1)]) (b := h0) (q0 := 0) (ci := 10) (C := RX11) (T := TX11) (N := 15) (st := []) F hN (fun sz => c_X11_reaches l D k h0 a2 a4 a5 a6 a7 a8 a9 a10 t0 s0 s1 s2 s3 (sq 1) sz ) (jy_cV F gl_c_X11_reaches rfl hdX11_reaches (lm_171) (lm_1349) (lm_1350) (lm_1351) rfl rfl ⟨by decide, by decide⟩) rfl rfl [0, 1] rfl (by decide) rfl rfl (Nat.le_of_ble_eq_true rfl) dL_law_1393 ⟨by decide, by decide⟩) rfl rfl rfl (fun r_3 u_1 e_2 => ?_)
  subst e_2
  refine jy_aload_n (pc' := 1397) F 1 dL_law_1396 rfl rfl rfl ?_
  refine jy_aload_n (pc' := 1398) F 3 dL_law_1397 rfl rfl rfl ?_
  refine jy_iload_n (pc' := 1399) F 0 dL_law_1398 rfl rfl rfl ?_
  refine jy_iconst (pc' := 1400) (v := 1) F dL_law_1399 (by decide) rfl ?_
  refine jy_iadd (pc' := 1401) (v := 1) F dL_law_1400 (by decide) rfl ?_
  refine jy_sld (pc' := 1402) (v := (sq 1)) F hX hbl hbA dL_law_1401 (vp_in_nI (n := 1) (by decide) (by decide)) rfl rfl ?_
  refine jy_calli (pc' := 1405) (cells' := 194) (slots' := 18023) (wr := []) hA [0, 1] [] rfl rfl (by decide) (by decide) (jy_runV (As := [.int (sq 1)]) (b := m0) (q0 := 0) (ci := 11) (C := RX12) (T := TX12) (N := 51) (st := [.int (-1)]) F hN (fun sz => c_X12_reaches l D k m0 b1 b2 b3 b4 b5 b6 b7 w0 w1 w2 w3 w4 w5 w6 w7 w8 w9 w10 w11 w12 w13 w14 w15 w16 w17 w18 w19 w20 w21 w22 fa (sq 1) sz (ha)) (jy_cV F gl_c_X12_reaches rfl hdX12_reaches (lm_185) (lm_2184) (lm_2185) (lm_2186) rfl rfl ⟨by decide, by decide⟩) rfl rfl [0, 1] rfl (by decide) rfl rfl (Nat.le_of_ble_eq_true rfl) dL_law_1402 ⟨by decide, by decide⟩) rfl rfl rfl (fun r_6 u_4 e_5 => ?_)
  subst e_5
  refine jy_icmp_eq (pc' := 1408) (tgt := 2053) F dL_law_1405 (by decide) rfl (fun _ => ?_) (fun h => absurd h (by decide))
  refine jy_iinc (pc' := 2056) (v := 6) (lv' := [(3, .int 6), (2, .ref m0), (1, .ref h0), (0, .ref b)]) F 0 dL_law_2053 rfl (by decide) (by decide) rfl rfl ?_
  refine jy_goto (tgt := 18) F dL_law_2056 (by decide) ?_
  refine jy_iload_n (pc' := 19) F 0 dL_law_18 rfl rfl rfl ?_
  refine jy_aload_n (pc' := 20) F 3 dL_law_19 rfl rfl rfl ?_
  refine jy_slen (pc' := 21) (v := 6) F hX hbl hbA dL_law_20 rfl rfl ?_
  refine jy_bipush (pc' := 23) (v := 6) F dL_law_21 (by decide) rfl ?_
  refine jy_isub (pc' := 24) (v := 0) F dL_law_23 (by decide) rfl ?_
  refine jy_icmp_gt (pc' := 27) (tgt := 2059) F dL_law_24 (by decide) rfl (fun _ => ?_) (fun h => absurd h (by decide))
  refine jy_iconst (pc' := 2060) (v := 1) F dL_law_2059 (by decide) rfl ?_
  exact jy_lawret F hr hlocks (by decide) (by decide) dL_law_2060
set_option maxHeartbeats 4000000 in
set_option maxRecDepth 100000 in
theorem lc_shortest {p : Program} {e : Env} {s : State} {m : MethodId} {below : List Frame} {meth : Method} {c : Code} (l : Launch) {b : Nat} {sq : Nat → Int32} (C0 : lw_At p s m meth c b 6 sq) (D : va_G) (k : jK) (F : jy_F p m c code 4 s #[Value.ref b] lw_tbl R_law D vwCl (jT k)) (hN : jy_N jW s) (h0 : Nat) (a2 : Nat) (a4 : Nat) (a5 : Nat) (a6 : Nat) (a7 : Nat) (a8 : Nat) (a9 : Nat) (a10 : Nat) (t0 : Nat) (s0 : Nat) (s1 : Nat) (s2 : Nat) (s3 : Nat) (m0 : Nat) (b1 : Nat) (b2 : Nat) (b3 : Nat) (b4 : Nat) (b5 : Nat) (b6 : Nat) (b7 : Nat) (w0 : Nat) (w1 : Nat) (w2 : Nat) (w3 : Nat) (w4 : Nat) (w5 : Nat) (w6 : Nat) (w7 : Nat) (w8 : Nat) (w9 : Nat) (w10 : Nat) (w11 : Nat) (w12 : Nat) (w13 : Nat) (w14 : Nat) (w15 : Nat) (w16 : Nat) (w17 : Nat) (w18 : Nat) (w19 : Nat) (w20 : Nat) (w21 : Nat) (w22 : Nat) (fa : Nat → Int32) (ha : fa 4 = -1 ∧ ∀ j, j ≠ 4 → fa j = 0) : JJ p l e room_1 s m #[Value.ref b] below meth c (lw_Z below #[Value.ref b] s) 4 D vwCl (fun q => s.heap.size ≤ q) (va_S (fun q => s.heap.size ≤ q) s.heap) 194 18023 [(h0, .inr (10, [.int 0, .long 0, .long 1, .ref t0, .ref a2, .ref s0, .ref a4, .int 0, .ref a5, .ref a6, .ref a7, .ref a8, .ref a9, .ref a10, .int 0])), (s0, .inr (4, [.int 0, .int 0, .int 0, .int 0, .ref s1, .ref s2, .ref s3])), (m0, .inr (11, [.ref b1, .ref b2, .int 0, .long 0, .long 1, .ref b3, .ref b4, .ref b5, .ref b6, .ref b7, .int 0, .int 0, .int 0, .int 0, .int 0, .int 0, .int (-1), .int (-1), .int 0, .int 0, .ref w0, .ref w1, .ref w2, .ref w3, .ref w4, .ref w5, .ref w6, .ref w7, .ref w8, .ref w9, .int 0, .int 0, .int 0, .ref w10, .ref w11, .int 0, .ref w12, .ref w13, .ref w14, .ref w15, .ref w16, .ref w17, .ref w18, .ref w19, .ref w20, .int 0, .ref w21, .ref w22, .int 0, .int 0, .int 0])), (b1, .inl (k.2.1, 1360, .inl fa))] 1410 [(3, .int 0), (2, .ref m0), (1, .ref h0), (0, .ref b)] [] := by
  obtain ⟨hx, hb, hr, hml, hown, hts, hX, hbl, hlocks, hgv⟩ := id C0
  have hA : ∀ q : Nat, s.heap.size ≤ q → (fun q : Nat => s.heap.size ≤ q) q := fun _ h => h
  have hbA : ¬ (fun q : Nat => s.heap.size ≤ q) b := Nat.not_le.mpr hbl
  refine jy_aload_n (pc' := 1411) F 2 dL_law_1410 rfl rfl rfl ?_
  refine jy_aload_n (pc' := 1412) F 3 dL_law_1411 rfl rfl rfl ?_
  refine jy_iload_n (pc' := 1413) F 0 dL_law_1412 rfl rfl rfl ?_
  refine jy_iconst (pc' := 1414) (v := 1) F dL_law_1413 (by decide) rfl ?_
  refine jy_iadd (pc' := 1415) (v := 1) F dL_law_1414 (by decide) rfl ?_
  refine jy_sld (pc' := 1416) (v := (sq 1)) F hX hbl hbA dL_law_1415 (vp_in_nI (n := 1) (by decide) (by decide)) rfl rfl ?_
  refine jy_calli (pc' := 1419) (cells' := 194) (slots' := 18023) (wr := [(m0, .inr (11, [.ref b1, .ref b2, .int 0, .long 0, .long 1, .ref b3, .ref b4, .ref b5, .ref b6, .ref b7, .int 0, .int 0, .int 0, .int 0, .int 0, .int 0, .int (-1), .int (-1), .int 0, .int 0, .ref w0, .ref w1, .ref w2, .ref w3, .ref w4, .ref w5, .ref w6, .ref w7, .ref w8, .ref w9, .int 0, .int 0, .int 0, .ref w10, .ref w11, .int 0, .ref w12, .ref w13, .ref w14, .ref w15, .ref w16, .ref w17, .ref w18, .ref w19, .ref w20, .int 0, .ref w21, .ref w22, .int 0, .int 0, .int 0])), (b1, .inl (k.2.1, 1360, .inl fa))]) hA [0, 1] [2, 3] rfl rfl (by decide) (by decide) (jy_runV (As := [.int (sq 1)]) (b := h0) (q0 := 0) (ci := 10) (C := RX11) (T := TX11) (N := 15) (st := []) F hN (fun sz => c_X11_shortest l D k h0 a2 a4 a5 a6 a7 a8 a9 a10 t0 s0 s1 s2 s3 (sq 1) sz ) (jy_cV F gl_c_X11_shortest rfl hdX11_shortest (lm_171) (lm_1369) (lm_1370) (lm_1371) rfl rfl ⟨by decide, by decide⟩) rfl rfl [0, 1] rfl (by decide) rfl rfl (Nat.le_of_ble_eq_true rfl) dL_law_1416 ⟨by decide, by decide⟩) rfl rfl rfl (fun r_3 u_1 e_2 => ?_)
  subst e_2
  refine jy_aload_n (pc' := 1420) F 1 dL_law_1419 rfl rfl rfl ?_
  refine jy_aload_n (pc' := 1421) F 3 dL_law_1420 rfl rfl rfl ?_
  refine jy_iload_n (pc' := 1422) F 0 dL_law_1421 rfl rfl rfl ?_
  refine jy_iconst (pc' := 1423) (v := 1) F dL_law_1422 (by decide) rfl ?_
  refine jy_iadd (pc' := 1424) (v := 1) F dL_law_1423 (by decide) rfl ?_
  refine jy_sld (pc' := 1425) (v := (sq 1)) F hX hbl hbA dL_law_1424 (vp_in_nI (n := 1) (by decide) (by decide)) rfl rfl ?_
  refine jy_calli (pc' := 1428) (cells' := 194) (slots' := 18023) (wr := []) hA [0, 1] [] rfl rfl (by decide) (by decide) (jy_runV (As := [.int (sq 1)]) (b := m0) (q0 := 0) (ci := 11) (C := RX12) (T := TX12) (N := 51) (st := [.int (-1)]) F hN (fun sz => c_X12_shortest l D k m0 b1 b2 b3 b4 b5 b6 b7 w0 w1 w2 w3 w4 w5 w6 w7 w8 w9 w10 w11 w12 w13 w14 w15 w16 w17 w18 w19 w20 w21 w22 fa (sq 1) sz (ha)) (jy_cV F gl_c_X12_shortest rfl hdX12_shortest (lm_185) (lm_2200) (lm_2201) (lm_2202) rfl rfl ⟨by decide, by decide⟩) rfl rfl [0, 1] rfl (by decide) rfl rfl (Nat.le_of_ble_eq_true rfl) dL_law_1425 ⟨by decide, by decide⟩) rfl rfl rfl (fun r_6 u_4 e_5 => ?_)
  subst e_5
  refine jy_icmp_eq (pc' := 1431) (tgt := 2053) F dL_law_1428 (by decide) rfl (fun _ => ?_) (fun h => absurd h (by decide))
  refine jy_iinc (pc' := 2056) (v := 6) (lv' := [(3, .int 6), (2, .ref m0), (1, .ref h0), (0, .ref b)]) F 0 dL_law_2053 rfl (by decide) (by decide) rfl rfl ?_
  refine jy_goto (tgt := 18) F dL_law_2056 (by decide) ?_
  refine jy_iload_n (pc' := 19) F 0 dL_law_18 rfl rfl rfl ?_
  refine jy_aload_n (pc' := 20) F 3 dL_law_19 rfl rfl rfl ?_
  refine jy_slen (pc' := 21) (v := 6) F hX hbl hbA dL_law_20 rfl rfl ?_
  refine jy_bipush (pc' := 23) (v := 6) F dL_law_21 (by decide) rfl ?_
  refine jy_isub (pc' := 24) (v := 0) F dL_law_23 (by decide) rfl ?_
  refine jy_icmp_gt (pc' := 27) (tgt := 2059) F dL_law_24 (by decide) rfl (fun _ => ?_) (fun h => absurd h (by decide))
  refine jy_iconst (pc' := 2060) (v := 1) F dL_law_2059 (by decide) rfl ?_
  exact jy_lawret F hr hlocks (by decide) (by decide) dL_law_2060
