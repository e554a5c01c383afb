set_option maxHeartbeats 4000000 in
set_option maxRecDepth 100000 in
theorem lc_share {p : Program} {e : Env} {s : State} {m : MethodId} {below : List Frame} {meth : Method} {c : Code} (l : Launch) {b : Nat} {sq : Nat → Int32} (C0 : lw_At p s m meth c b 6 sq) (D : va_G) (k : jK) (F : jy_F p m c code 4 s #[Value.ref b] lw_tbl R_law D vwCl (jT k)) (hN : jy_N jW s) (h0 : Nat) (a2 : Nat) (a4 : Nat) (a5 : Nat) (a6 : Nat) (a7 : Nat) (a8 : Nat) (a9 : Nat) (a10 : Nat) (t0 : Nat) (s0 : Nat) (s1 : Nat) (s2 : Nat) (s3 : Nat) (m0 : Nat) (b1 : Nat) (b2 : Nat) (b3 : Nat) (b4 : Nat) (b5 : Nat) (b6 : Nat) (b7 : Nat) (w0 : Nat) (w1 : Nat) (w2 : Nat) (w3 : Nat) (w4 : Nat) (w5 : Nat) (w6 : Nat) (w7 : Nat) (w8 : Nat) (w9 : Nat) (w10 : Nat) (w11 : Nat) (w12 : Nat) (w13 : Nat) (w14 : Nat) (w15 : Nat) (w16 : Nat) (w17 : Nat) (w18 : Nat) (w19 : Nat) (w20 : Nat) (w21 : Nat) (w22 : Nat) (fa : Nat → Int32) (ha : fa 4 = -1 ∧ ∀ j, j ≠ 4 → fa j = 0) : JJ p l e room_1 s m #[Value.ref b] below meth c (lw_Z below #[Value.ref b] s) 4 D vwCl (fun q => s.heap.size ≤ q) (va_S (fun q => s.heap.size ≤ q) s.heap) 194 18023 [(h0, .inr (10, [.int 0, .long 0, .long 1, .ref t0, .ref a2, .ref s0, .ref a4, .int 0, .ref a5, .ref a6, .ref a7, .ref a8, .ref a9, .ref a10, .int 0])), (s0, .inr (4, [.int 0, .int 0, .int 0, .int 0, .ref s1, .ref s2, .ref s3])), (m0, .inr (11, [.ref b1, .ref b2, .int 0, .long 0, .long 1, .ref b3, .ref b4, .ref b5, .ref b6, .ref b7, .int 0, .int 0, .int 0, .int 0, .int 0, .int 0, .int (-1), .int (-1), .int 0, .int 0, .ref w0, .ref w1, .ref w2, .ref w3, .ref w4, .ref w5, .ref w6, .ref w7, .ref w8, .ref w9, .int 0, .int 0, .int 0, .ref w10, .ref w11, .int 0, .ref w12, .ref w13, .ref w14, .ref w15, .ref w16, .ref w17, .ref w18, .ref w19, .ref w20, .int 0, .ref w21, .ref w22, .int 0, .int 0, .int 0])), (b1, .inl (k.2.1, 1360, .inl fa))] 1773 [(3, .int 0), (2, .ref m0), (1, .ref h0), (0, .ref b)] [] := by
  obtain ⟨hx, hb, hr, hml, hown, hts, hX, hbl, hlocks, hgv⟩ := id C0
  have hA : ∀ q : Nat, s.heap.size ≤ q → (fun q : Nat => s.heap.size ≤ q) q := fun _ h => h
  have hbA : ¬ (fun q : Nat => s.heap.size ≤ q) b := Nat.not_le.mpr hbl
  refine jy_aload_n (pc' := 1774) F 2 dL_law_1773 rfl rfl rfl ?_
  refine jy_aload_n (pc' := 1775) F 3 dL_law_1774 rfl rfl rfl ?_
  refine jy_iload_n (pc' := 1776) F 0 dL_law_1775 rfl rfl rfl ?_
  refine jy_iconst (pc' := 1777) (v := 1) F dL_law_1776 (by decide) rfl ?_
  refine jy_iadd (pc' := 1778) (v := 1) F dL_law_1777 (by decide) rfl ?_
  refine jy_sld (pc' := 1779) (v := (sq 1)) F hX hbl hbA dL_law_1778 (vp_in_nI (n := 1) (by decide) (by decide)) rfl rfl ?_
  refine jy_aload_n (pc' := 1780) F 3 dL_law_1779 rfl rfl rfl ?_
  refine jy_iload_n (pc' := 1781) F 0 dL_law_1780 rfl rfl rfl ?_
  refine jy_iconst (pc' := 1782) (v := 2) F dL_law_1781 (by decide) rfl ?_
  refine jy_iadd (pc' := 1783) (v := 2) F dL_law_1782 (by decide) rfl ?_
  refine jy_sld (pc' := 1784) (v := (sq 2)) F hX hbl hbA dL_law_1783 (vp_in_nI (n := 2) (by decide) (by decide)) rfl rfl ?_
  refine jy_calli (pc' := 1787) (cells' := 194) (slots' := 18023) (wr := [(m0, .inr (11, [.ref b1, .ref b2, .int 0, .long 0, .long 1, .ref b3, .ref b4, .ref b5, .ref b6, .ref b7, .int 0, .int 0, .int 0, .int 0, .int 0, .int 0, .int (-1), .int (-1), .int 0, .int 0, .ref w0, .ref w1, .ref w2, .ref w3, .ref w4, .ref w5, .ref w6, .ref w7, .ref w8, .ref w9, .int 0, .int 0, .int 0, .ref w10, .ref w11, .int 0, .ref w12, .ref w13, .ref w14, .ref w15, .ref w16, .ref w17, .ref w18, .ref w19, .ref w20, .int 0, .ref w21, .ref w22, .int 0, .int 0, .int 0])), (b1, .inl (k.2.1, 1360, .inl fa))]) hA [0, 1] [2, 3] rfl rfl (by decide) (by decide) (jy_runV (As := [.int (sq 1), .int (sq 2)]) (b := h0) (q0 := 0) (ci := 10) (C := RX11) (T := TX11) (N := 15) (st := []) F hN (fun sz => c_X11_share l D k h0 a2 a4 a5 a6 a7 a8 a9 a10 t0 s0 s1 s2 s3 (sq 1) (sq 2) sz ) (jy_cV F gl_c_X11_share rfl hdX11_share (lm_171) (lm_1520) (lm_1521) (lm_1522) rfl rfl ⟨by decide, by decide⟩) rfl rfl [0, 1] rfl (by decide) rfl rfl (Nat.le_of_ble_eq_true rfl) dL_law_1784 ⟨by decide, by decide⟩) rfl rfl rfl (fun r_3 u_1 e_2 => ?_)
  subst e_2
  refine jy_aload_n (pc' := 1788) F 1 dL_law_1787 rfl rfl rfl ?_
  refine jy_aload_n (pc' := 1789) F 3 dL_law_1788 rfl rfl rfl ?_
  refine jy_iload_n (pc' := 1790) F 0 dL_law_1789 rfl rfl rfl ?_
  refine jy_iconst (pc' := 1791) (v := 1) F dL_law_1790 (by decide) rfl ?_
  refine jy_iadd (pc' := 1792) (v := 1) F dL_law_1791 (by decide) rfl ?_
  refine jy_sld (pc' := 1793) (v := (sq 1)) F hX hbl hbA dL_law_1792 (vp_in_nI (n := 1) (by decide) (by decide)) rfl rfl ?_
  refine jy_aload_n (pc' := 1794) F 3 dL_law_1793 rfl rfl rfl ?_
  refine jy_iload_n (pc' := 1795) F 0 dL_law_1794 rfl rfl rfl ?_
  refine jy_iconst (pc' := 1796) (v := 2) F dL_law_1795 (by decide) rfl ?_
  refine jy_iadd (pc' := 1797) (v := 2) F dL_law_1796 (by decide) rfl ?_
  refine jy_sld (pc' := 1798) (v := (sq 2)) F hX hbl hbA dL_law_1797 (vp_in_nI (n := 2) (by decide) (by decide)) rfl rfl ?_
  refine jy_calli (pc' := 1801) (cells' := 194) (slots' := 18023) (wr := []) hA [0, 1] [] rfl rfl (by decide) (by decide) (jy_runV (As := [.int (sq 1), .int (sq 2)]) (b := m0) (q0 := 0) (ci := 11) (C := RX12) (T := TX12) (N := 51) (st := [.int 0]) F hN (fun sz => c_X12_share l D k m0 b1 b2 b3 b4 b5 b6 b7 w0 w1 w2 w3 w4 w5 w6 w7 w8 w9 w10 w11 w12 w13 w14 w15 w16 w17 w18 w19 w20 w21 w22 fa (sq 1) (sq 2) sz (ha)) (jy_cV F gl_c_X12_share rfl hdX12_share (lm_185) (lm_2297) (lm_2298) (lm_2299) rfl rfl ⟨by decide, by decide⟩) rfl rfl [0, 1] rfl (by decide) rfl rfl (Nat.le_of_ble_eq_true rfl) dL_law_1798 ⟨by decide, by decide⟩) rfl rfl rfl (fun r_6 u_4 e_5 => ?_)
  subst e_5
  refine jy_icmp_eq (pc' := 1804) (tgt := 2053) F dL_law_1801 (by decide) rfl (fun _ => ?_) (fun h => absurd h (by decide))
  refine jy_iinc (pc' := 2056) (v := 6) (lv' := [(3, .int 6), (2, .ref m0), (1, .ref h0), (0, .ref b)]) F 0 dL_law_2053 rfl (by decide) (by decide) rfl rfl ?_
  refine jy_goto (tgt := 18) F dL_law_2056 (by decide) ?_
  refine jy_iload_n (pc' := 19) F 0 dL_law_18 rfl rfl rfl ?_
  refine jy_aload_n (pc' := 20) F 3 dL_law_19 rfl rfl rfl ?_
  refine jy_slen (pc' := 21) (v := 6) F hX hbl hbA dL_law_20 rfl rfl ?_
  refine jy_bipush (pc' := 23) (v := 6) F dL_law_21 (by decide) rfl ?_
  refine jy_isub (pc' := 24) (v := 0) F dL_law_23 (by decide) rfl ?_
  refine jy_icmp_gt (pc' := 27) (tgt := 2059) F dL_law_24 (by decide) rfl (fun _ => ?_) (fun h => absurd h (by decide))
  refine jy_iconst (pc' := 2060) (v := 1) F dL_law_2059 (by decide) rfl ?_
  exact jy_lawret F hr hlocks (by decide) (by decide) dL_law_2060
set_option maxHeartbeats 4000000 in
set_option maxRecDepth 100000 in
theorem lc_lastAt {p : Program} {e : Env} {s : State} {m : MethodId} {below : List Frame} {meth : Method} {c : Code} (l : Launch) {b : Nat} {sq : Nat → Int32} (C0 : lw_At p s m meth c b 6 sq) (D : va_G) (k : jK) (F : jy_F p m c code 4 s #[Value.ref b] lw_tbl R_law D vwCl (jT k)) (hN : jy_N jW s) (h0 : Nat) (a2 : Nat) (a4 : Nat) (a5 : Nat) (a6 : Nat) (a7 : Nat) (a8 : Nat) (a9 : Nat) (a10 : Nat) (t0 : Nat) (s0 : Nat) (s1 : Nat) (s2 : Nat) (s3 : Nat) (m0 : Nat) (b1 : Nat) (b2 : Nat) (b3 : Nat) (b4 : Nat) (b5 : Nat) (b6 : Nat) (b7 : Nat) (w0 : Nat) (w1 : Nat) (w2 : Nat) (w3 : Nat) (w4 : Nat) (w5 : Nat) (w6 : Nat) (w7 : Nat) (w8 : Nat) (w9 : Nat) (w10 : Nat) (w11 : Nat) (w12 : Nat) (w13 : Nat) (w14 : Nat) (w15 : Nat) (w16 : Nat) (w17 : Nat) (w18 : Nat) (w19 : Nat) (w20 : Nat) (w21 : Nat) (w22 : Nat) (fa : Nat → Int32) (ha : fa 4 = -1 ∧ ∀ j, j ≠ 4 → fa j = 0) : JJ p l e room_1 s m #[Value.ref b] below meth c (lw_Z below #[Value.ref b] s) 4 D vwCl (fun q => s.heap.size ≤ q) (va_S (fun q => s.heap.size ≤ q) s.heap) 194 18023 [(h0, .inr (10, [.int 0, .long 0, .long 1, .ref t0, .ref a2, .ref s0, .ref a4, .int 0, .ref a5, .ref a6, .ref a7, .ref a8, .ref a9, .ref a10, .int 0])), (s0, .inr (4, [.int 0, .int 0, .int 0, .int 0, .ref s1, .ref s2, .ref s3])), (m0, .inr (11, [.ref b1, .ref b2, .int 0, .long 0, .long 1, .ref b3, .ref b4, .ref b5, .ref b6, .ref b7, .int 0, .int 0, .int 0, .int 0, .int 0, .int 0, .int (-1), .int (-1), .int 0, .int 0, .ref w0, .ref w1, .ref w2, .ref w3, .ref w4, .ref w5, .ref w6, .ref w7, .ref w8, .ref w9, .int 0, .int 0, .int 0, .ref w10, .ref w11, .int 0, .ref w12, .ref w13, .ref w14, .ref w15, .ref w16, .ref w17, .ref w18, .ref w19, .ref w20, .int 0, .ref w21, .ref w22, .int 0, .int 0, .int 0])), (b1, .inl (k.2.1, 1360, .inl fa))] 1806 [(3, .int 0), (2, .ref m0), (1, .ref h0), (0, .ref b)] [] := by
  obtain ⟨hx, hb, hr, hml, hown, hts, hX, hbl, hlocks, hgv⟩ := id C0
  have hA : ∀ q : Nat, s.heap.size ≤ q → (fun q : Nat => s.heap.size ≤ q) q := fun _ h => h
  have hbA : ¬ (fun q : Nat => s.heap.size ≤ q) b := Nat.not_le.mpr hbl
  refine jy_aload_n (pc' := 1807) F 2 dL_law_1806 rfl rfl rfl ?_
  refine jy_aload_n (pc' := 1808) F 3 dL_law_1807 rfl rfl rfl ?_
  refine jy_iload_n (pc' := 1809) F 0 dL_law_1808 rfl rfl rfl ?_
  refine jy_iconst (pc' := 1810) (v := 1) F dL_law_1809 (by decide) rfl ?_
  refine jy_iadd (pc' := 1811) (v := 1) F dL_law_1810 (by decide) rfl ?_
  refine jy_sld (pc' := 1812) (v := (sq 1)) F hX hbl hbA dL_law_1811 (vp_in_nI (n := 1) (by decide) (by decide)) rfl rfl ?_
  refine jy_aload_n (pc' := 1813) F 3 dL_law_1812 rfl rfl rfl ?_
  refine jy_iload_n (pc' := 1814) F 0 dL_law_1813 rfl rfl rfl ?_
  refine jy_iconst (pc' := 1815) (v := 2) F dL_law_1814 (by decide) rfl ?_
  refine jy_iadd (pc' := 1816) (v := 2) F dL_law_1815 (by decide) rfl ?_
  refine jy_sld (pc' := 1817) (v := (sq 2)) F hX hbl hbA dL_law_1816 (vp_in_nI (n := 2) (by decide) (by decide)) rfl rfl ?_
  refine jy_aload_n (pc' := 1818) F 3 dL_law_1817 rfl rfl rfl ?_
  refine jy_iload_n (pc' := 1819) F 0 dL_law_1818 rfl rfl rfl ?_
  refine jy_iconst (pc' := 1820) (v := 3) F dL_law_1819 (by decide) rfl ?_
  refine jy_iadd (pc' := 1821) (v := 3) F dL_law_1820 (by decide) rfl ?_
  refine jy_sld (pc' := 1822) (v := (sq 3)) F hX hbl hbA dL_law_1821 (vp_in_nI (n := 3) (by decide) (by decide)) rfl rfl ?_
  refine jy_calli (pc' := 1825) (cells' := 194) (slots' := 18023) (wr := [(m0, .inr (11, [.ref b1, .ref b2, .int 0, .long 0, .long 1, .ref b3, .ref b4, .ref b5, .ref b6, .ref b7, .int 0, .int 0, .int 0, .int 0, .int 0, .int 0, .int (-1), .int (-1), .int 0, .int 0, .ref w0, .ref w1, .ref w2, .ref w3, .ref w4, .ref w5, .ref w6, .ref w7, .ref w8, .ref w9, .int 0, .int 0, .int 0, .ref w10, .ref w11, .int 0, .ref w12, .ref w13, .ref w14, .ref w15, .ref w16, .ref w17, .ref w18, .ref w19, .ref w20, .int 0, .ref w21, .ref w22, .int 0, .int 0, .int 0])), (b1, .inl (k.2.1, 1360, .inl fa))]) hA [0, 1] [2, 3] rfl rfl (by decide) (by decide) (jy_runV (As := [.int (sq 1), .int (sq 2), .int (sq 3)]) (b := h0) (q0 := 0) (ci := 10) (C := RX11) (T := TX11) (N := 15) (st := []) F hN (fun sz => c_X11_lastAt l D k h0 a2 a4 a5 a6 a7 a8 a9 a10 t0 s0 s1 s2 s3 (sq 1) (sq 2) (sq 3) sz ) (jy_cV F gl_c_X11_lastAt rfl hdX11_lastAt (lm_171) (lm_1525) (lm_1526) (lm_1527) rfl rfl ⟨by decide, by decide⟩) rfl rfl [0, 1] rfl (by decide) rfl rfl (Nat.le_of_ble_eq_true rfl) dL_law_1822 ⟨by decide, by decide⟩) rfl rfl rfl (fun r_3 u_1 e_2 => ?_)
  subst e_2
  refine jy_aload_n (pc' := 1826) F 1 dL_law_1825 rfl rfl rfl ?_
  refine jy_aload_n (pc' := 1827) F 3 dL_law_1826 rfl rfl rfl ?_
  refine jy_iload_n (pc' := 1828) F 0 dL_law_1827 rfl rfl rfl ?_
  refine jy_iconst (pc' := 1829) (v := 1) F dL_law_1828 (by decide) rfl ?_
  refine jy_iadd (pc' := 1830) (v := 1) F dL_law_1829 (by decide) rfl ?_
  refine jy_sld (pc' := 1831) (v := (sq 1)) F hX hbl hbA dL_law_1830 (vp_in_nI (n := 1) (by decide) (by decide)) rfl rfl ?_
  refine jy_aload_n (pc' := 1832) F 3 dL_law_1831 rfl rfl rfl ?_
  refine jy_iload_n (pc' := 1833) F 0 dL_law_1832 rfl rfl rfl ?_
  refine jy_iconst (pc' := 1834) (v := 2) F dL_law_1833 (by decide) rfl ?_
  refine jy_iadd (pc' := 1835) (v := 2) F dL_law_1834 (by decide) rfl ?_
  refine jy_sld (pc' := 1836) (v := (sq 2)) F hX hbl hbA dL_law_1835 (vp_in_nI (n := 2) (by decide) (by decide)) rfl rfl ?_
  refine jy_aload_n (pc' := 1837) F 3 dL_law_1836 rfl rfl rfl ?_
  refine jy_iload_n (pc' := 1838) F 0 dL_law_1837 rfl rfl rfl ?_
  refine jy_iconst (pc' := 1839) (v := 3) F dL_law_1838 (by decide) rfl ?_
  refine jy_iadd (pc' := 1840) (v := 3) F dL_law_1839 (by decide) rfl ?_
  refine jy_sld (pc' := 1841) (v := (sq 3)) F hX hbl hbA dL_law_1840 (vp_in_nI (n := 3) (by decide) (by decide)) rfl rfl ?_
  refine jy_calli (pc' := 1844) (cells' := 194) (slots' := 18023) (wr := []) hA [0, 1] [] rfl rfl (by decide) (by decide) (jy_runV (As := [.int (sq 1), .int (sq 2), .int (sq 3)]) (b := m0) (q0 := 0) (ci := 11) (C := RX12) (T := TX12) (N := 51) (st := [.int (-1)]) F hN (fun sz => c_X12_lastAt l D k m0 b1 b2 b3 b4 b5 b6 b7 w0 w1 w2 w3 w4 w5 w6 w7 w8 w9 w10 w11 w12 w13 w14 w15 w16 w17 w18 w19 w20 w21 w22 fa (sq 1) (sq 2) (sq 3) sz (ha)) (jy_cV F gl_c_X12_lastAt rfl hdX12_lastAt (lm_185) (lm_2301) (lm_2302) (lm_2303) rfl rfl ⟨by decide, by decide⟩) rfl rfl [0, 1] rfl (by decide) rfl rfl (Nat.le_of_ble_eq_true rfl) dL_law_1841 ⟨by decide, by decide⟩) rfl rfl rfl (fun r_6 u_4 e_5 => ?_)
  subst e_5
  refine jy_icmp_eq (pc' := 1847) (tgt := 2053) F dL_law_1844 (by decide) rfl (fun _ => ?_) (fun h => absurd h (by decide))
  refine jy_iinc (pc' := 2056) (v := 6) (lv' := [(3, .int 6), (2, .ref m0), (1, .ref h0), (0, .ref b)]) F 0 dL_law_2053 rfl (by decide) (by decide) rfl rfl ?_
  refine jy_goto (tgt := 18) F dL_law_2056 (by decide) ?_
  refine jy_iload_n (pc' := 19) F 0 dL_law_18 rfl rfl rfl ?_
  refine jy_aload_n (pc' := 20) F 3 dL_law_19 rfl rfl rfl ?_
  refine jy_slen (pc' := 21) (v := 6) F hX hbl hbA dL_law_20 rfl rfl ?_
  refine jy_bipush (pc' := 23) (v := 6) F dL_law_21 (by decide) rfl ?_
  refine jy_isub (pc' := 24) (v := 0) F dL_law_23 (by decide) rfl ?_
  refine jy_icmp_gt (pc' := 27) (tgt := 2059) F dL_law_24 (by decide) rfl (fun _ => ?_) (fun h => absurd h (by decide))
  refine jy_iconst (pc' := 2060) (v := 1) F dL_law_2059 (by decide) rfl ?_
  exact jy_lawret F hr hlocks (by decide) (by decide) dL_law_2060
set_option maxHeartbeats 4000000 in
set_option maxRecDepth 100000 in
theorem lc_sample {p : Program} {e : Env} {s : State} {m : MethodId} {below : List Frame} {meth : Method} {c : Code} (l : Launch) {b : Nat} {sq : Nat → Int32} (C0 : lw_At p s m meth c b 6 sq) (D : va_G) (k : jK) (F : jy_F p m c code 4 s #[Value.ref b] lw_tbl R_law D vwCl (jT k)) (hN : jy_N jW s) (h0 : Nat) (a2 : Nat) (a4 : Nat) (a5 : Nat) (a6 : Nat) (a7 : Nat) (a8 : Nat) (a9 : Nat) (a10 : Nat) (t0 : Nat) (s0 : Nat) (t1 : Nat) (t2 : Nat) (t3 : Nat) (fp : Nat → Int32) (m0 : Nat) (b1 : Nat) (b2 : Nat) (b3 : Nat) (b4 : Nat) (b5 : Nat) (b6 : Nat) (b7 : Nat) (w0 : Nat) (w1 : Nat) (w2 : Nat) (w3 : Nat) (w4 : Nat) (w5 : Nat) (w6 : Nat) (w7 : Nat) (w8 : Nat) (w9 : Nat) (w10 : Nat) (w11 : Nat) (w12 : Nat) (w13 : Nat) (w14 : Nat) (w15 : Nat) (w16 : Nat) (w17 : Nat) (w18 : Nat) (w19 : Nat) (w20 : Nat) (w21 : Nat) (w22 : Nat) (fm : Nat → Int32) (hp : ∀ j, j < 4 → fp j = -1) (hm : ∀ j, j < 4 → fm j = -1) : JJ p l e room_1 s m #[Value.ref b] below meth c (lw_Z below #[Value.ref b] s) 4 D vwCl (fun q => s.heap.size ≤ q) (va_S (fun q => s.heap.size ≤ q) s.heap) 194 18023 [(h0, .inr (10, [.int 0, .long 0, .long 1, .ref t0, .ref a2, .ref s0, .ref a4, .int 0, .ref a5, .ref a6, .ref a7, .ref a8, .ref a9, .ref a10, .int 0])), (t0, .inr (8, [.ref t1, .ref t2, .ref t3])), (t3, .inl (k.2.1, 4, .inl fp)), (m0, .inr (11, [.ref b1, .ref b2, .int 0, .long 0, .long 1, .ref b3, .ref b4, .ref b5, .ref b6, .ref b7, .int 0, .int 0, .int 0, .int 0, .int 0, .int 0, .int (-1), .int (-1), .int 0, .int 0, .ref w0, .ref w1, .ref w2, .ref w3, .ref w4, .ref w5, .ref w6, .ref w7, .ref w8, .ref w9, .int 0, .int 0, .int 0, .ref w10, .ref w11, .int 0, .ref w12, .ref w13, .ref w14, .ref w15, .ref w16, .ref w17, .ref w18, .ref w19, .ref w20, .int 0, .ref w21, .ref w22, .int 0, .int 0, .int 0])), (b4, .inl (k.2.1, 4, .inl fm))] 1849 [(3, .int 0), (2, .ref m0), (1, .ref h0), (0, .ref b)] [] := by
  obtain ⟨hx, hb, hr, hml, hown, hts, hX, hbl, hlocks, hgv⟩ := id C0
  have hA : ∀ q : Nat, s.heap.size ≤ q → (fun q : Nat => s.heap.size ≤ q) q := fun _ h => h
  have hbA : ¬ (fun q : Nat => s.heap.size ≤ q) b := Nat.not_le.mpr hbl
  refine jy_aload_n (pc' := 1850) F 2 dL_law_1849 rfl rfl rfl ?_
  refine jy_aload_n (pc' := 1851) F 3 dL_law_1850 rfl rfl rfl ?_
  refine jy_iload_n (pc' := 1852) F 0 dL_law_1851 rfl rfl rfl ?_
  refine jy_iconst (pc' := 1853) (v := 1) F dL_law_1852 (by decide) rfl ?_
  refine jy_iadd (pc' := 1854) (v := 1) F dL_law_1853 (by decide) rfl ?_
  refine jy_sld (pc' := 1855) (v := (sq 1)) F hX hbl hbA dL_law_1854 (vp_in_nI (n := 1) (by decide) (by decide)) rfl rfl ?_
  refine jy_aload_n (pc' := 1856) F 3 dL_law_1855 rfl rfl rfl ?_
  refine jy_iload_n (pc' := 1857) F 0 dL_law_1856 rfl rfl rfl ?_
  refine jy_iconst (pc' := 1858) (v := 2) F dL_law_1857 (by decide) rfl ?_
  refine jy_iadd (pc' := 1859) (v := 2) F dL_law_1858 (by decide) rfl ?_
  refine jy_sld (pc' := 1860) (v := (sq 2)) F hX hbl hbA dL_law_1859 (vp_in_nI (n := 2) (by decide) (by decide)) rfl rfl ?_
  refine jy_aload_n (pc' := 1861) F 3 dL_law_1860 rfl rfl rfl ?_
  refine jy_iload_n (pc' := 1862) F 0 dL_law_1861 rfl rfl rfl ?_
  refine jy_iconst (pc' := 1863) (v := 3) F dL_law_1862 (by decide) rfl ?_
  refine jy_iadd (pc' := 1864) (v := 3) F dL_law_1863 (by decide) rfl ?_
  refine jy_sld (pc' := 1865) (v := (sq 3)) F hX hbl hbA dL_law_1864 (vp_in_nI (n := 3) (by decide) (by decide)) rfl rfl ?_
  refine jy_calli (pc' := 1868) (cells' := 194) (slots' := 18023) (wr := [(m0, .inr (11, [.ref b1, .ref b2, .int 0, .long 0, .long 1, .ref b3, .ref b4, .ref b5, .ref b6, .ref b7, .int 0, .int 0, .int 0, .int 0, .int 0, .int 0, .int (-1), .int (-1), .int 0, .int 0, .ref w0, .ref w1, .ref w2, .ref w3, .ref w4, .ref w5, .ref w6, .ref w7, .ref w8, .ref w9, .int 0, .int 0, .int 0, .ref w10, .ref w11, .int 0, .ref w12, .ref w13, .ref w14, .ref w15, .ref w16, .ref w17, .ref w18, .ref w19, .ref w20, .int 0, .ref w21, .ref w22, .int 0, .int 0, .int 0])), (b4, .inl (k.2.1, 4, .inl fm))]) hA [0, 1, 2] [3, 4] rfl rfl (by decide) (by decide) (jy_runV (As := [.int (sq 1), .int (sq 2), .int (sq 3)]) (b := h0) (q0 := 0) (ci := 10) (C := RX11) (T := TX11) (N := 15) (st := []) F hN (fun sz => c_X11_sample l D k h0 a2 a4 a5 a6 a7 a8 a9 a10 t0 s0 t1 t2 t3 fp (sq 1) (sq 2) (sq 3) sz (hp)) (jy_cV F gl_c_X11_sample rfl hdX11_sample (lm_171) (lm_1533) (lm_1534) (lm_1535) rfl rfl ⟨by decide, by decide⟩) rfl rfl [0, 1, 2] rfl (by decide) rfl rfl (Nat.le_of_ble_eq_true rfl) dL_law_1865 ⟨by decide, by decide⟩) rfl rfl rfl (fun r_3 u_1 e_2 => ?_)
  subst e_2
  refine jy_aload_n (pc' := 1869) F 1 dL_law_1868 rfl rfl rfl ?_
  refine jy_aload_n (pc' := 1870) F 3 dL_law_1869 rfl rfl rfl ?_
  refine jy_iload_n (pc' := 1871) F 0 dL_law_1870 rfl rfl rfl ?_
  refine jy_iconst (pc' := 1872) (v := 1) F dL_law_1871 (by decide) rfl ?_
  refine jy_iadd (pc' := 1873) (v := 1) F dL_law_1872 (by decide) rfl ?_
  refine jy_sld (pc' := 1874) (v := (sq 1)) F hX hbl hbA dL_law_1873 (vp_in_nI (n := 1) (by decide) (by decide)) rfl rfl ?_
  refine jy_aload_n (pc' := 1875) F 3 dL_law_1874 rfl rfl rfl ?_
  refine jy_iload_n (pc' := 1876) F 0 dL_law_1875 rfl rfl rfl ?_
  refine jy_iconst (pc' := 1877) (v := 2) F dL_law_1876 (by decide) rfl ?_
  refine jy_iadd (pc' := 1878) (v := 2) F dL_law_1877 (by decide) rfl ?_
  refine jy_sld (pc' := 1879) (v := (sq 2)) F hX hbl hbA dL_law_1878 (vp_in_nI (n := 2) (by decide) (by decide)) rfl rfl ?_
  refine jy_aload_n (pc' := 1880) F 3 dL_law_1879 rfl rfl rfl ?_
  refine jy_iload_n (pc' := 1881) F 0 dL_law_1880 rfl rfl rfl ?_
  refine jy_iconst (pc' := 1882) (v := 3) F dL_law_1881 (by decide) rfl ?_
  refine jy_iadd (pc' := 1883) (v := 3) F dL_law_1882 (by decide) rfl ?_
  refine jy_sld (pc' := 1884) (v := (sq 3)) F hX hbl hbA dL_law_1883 (vp_in_nI (n := 3) (by decide) (by decide)) rfl rfl ?_
  refine jy_calli (pc' := 1887) (cells' := 194) (slots' := 18023) (wr := []) hA [0, 1] [] rfl rfl (by decide) (by decide) (jy_runV (As := [.int (sq 1), .int (sq 2), .int (sq 3)]) (b := m0) (q0 := 0) (ci := 11) (C := RX12) (T := TX12) (N := 51) (st := [.int 0]) F hN (fun sz => c_X12_sample l D k m0 b1 b2 b3 b4 b5 b6 b7 w0 w1 w2 w3 w4 w5 w6 w7 w8 w9 w10 w11 w12 w13 w14 w15 w16 w17 w18 w19 w20 w21 w22 fm (sq 1) (sq 2) (sq 3) sz (hm)) (jy_cV F gl_c_X12_sample rfl hdX12_sample (lm_185) (lm_2305) (lm_2306) (lm_2307) rfl rfl ⟨by decide, by decide⟩) rfl rfl [0, 1] rfl (by decide) rfl rfl (Nat.le_of_ble_eq_true rfl) dL_law_1884 ⟨by decide, by decide⟩) rfl rfl rfl (fun r_6 u_4 e_5 => ?_)
  subst e_5
  refine jy_icmp_eq (pc' := 1890) (tgt := 2053) F dL_law_1887 (by decide) rfl (fun _ => ?_) (fun h => absurd h (by decide))
  refine jy_iinc (pc' := 2056) (v := 6) (lv' := [(3, .int 6), (2, .ref m0), (1, .ref h0), (0, .ref b)]) F 0 dL_law_2053 rfl (by decide) (by decide) rfl rfl ?_
  refine jy_goto (tgt := 18) F dL_law_2056 (by decide) ?_
  refine jy_iload_n (pc' := 19) F 0 dL_law_18 rfl rfl rfl ?_
  refine jy_aload_n (pc' := 20) F 3 dL_law_19 rfl rfl rfl ?_
  refine jy_slen (pc' := 21) (v := 6) F hX hbl hbA dL_law_20 rfl rfl ?_
  refine jy_bipush (pc' := 23) (v := 6) F dL_law_21 (by decide) rfl ?_
  refine jy_isub (pc' := 24) (v := 0) F dL_law_23 (by decide) rfl ?_
  refine jy_icmp_gt (pc' := 27) (tgt := 2059) F dL_law_24 (by decide) rfl (fun _ => ?_) (fun h => absurd h (by decide))
  refine jy_iconst (pc' := 2060) (v := 1) F dL_law_2059 (by decide) rfl ?_
  exact jy_lawret F hr hlocks (by decide) (by decide) dL_law_2060
set_option maxHeartbeats 4000000 in
set_option maxRecDepth 100000 in
theorem lc_chance {p : Program} {e : Env} {s : State} {m : MethodId} {below : List Frame} {meth : Method} {c : Code} (l : Launch) {b : Nat} {sq : Nat → Int32} (C0 : lw_At p s m meth c b 6 sq) (D : va_G) (k : jK) (F : jy_F p m c code 4 s #[Value.ref b] lw_tbl R_law D vwCl (jT k)) (hN : jy_N jW s) (h0 : Nat) (a2 : Nat) (a4 : Nat) (a5 : Nat) (a6 : Nat) (a7 : Nat) (a8 : Nat) (a9 : Nat) (a10 : Nat) (t0 : Nat) (s0 : Nat) (s1 : Nat) (s2 : Nat) (s3 : Nat) (m0 : Nat) (b1 : Nat) (b2 : Nat) (b3 : Nat) (b4 : Nat) (b5 : Nat) (b6 : Nat) (b7 : Nat) (w0 : Nat) (w1 : Nat) (w2 : Nat) (w3 : Nat) (w4 : Nat) (w5 : Nat) (w6 : Nat) (w7 : Nat) (w8 : Nat) (w9 : Nat) (w10 : Nat) (w11 : Nat) (w12 : Nat) (w13 : Nat) (w14 : Nat) (w15 : Nat) (w16 : Nat) (w17 : Nat) (w18 : Nat) (w19 : Nat) (w20 : Nat) (w21 : Nat) (w22 : Nat) (fa : Nat → Int32) (ha : fa 4 = -1 ∧ ∀ j, j ≠ 4 → fa j = 0) : JJ p l e room_1 s m #[Value.ref b] below meth c (lw_Z below #[Value.ref b] s) 4 D vwCl (fun q => s.heap.size ≤ q) (va_S (fun q => s.heap.size ≤ q) s.heap) 194 18023 [(h0, .inr (10, [.int 0, .long 0, .long 1, .ref t0, .ref a2, .ref s0, .ref a4, .int 0, .ref a5, .ref a6, .ref a7, .ref a8, .ref a9, .ref a10, .int 0])), (s0, .inr (4, [.int 0, .int 0, .int 0, .int 0, .ref s1, .ref s2, .ref s3])), (m0, .inr (11, [.ref b1, .ref b2, .int 0, .long 0, .long 1, .ref b3, .ref b4, .ref b5, .ref b6, .ref b7, .int 0, .int 0, .int 0, .int 0, .int 0, .int 0, .int (-1), .int (-1), .int 0, .int 0, .ref w0, .ref w1, .ref w2, .ref w3, .ref w4, .ref w5, .ref w6, .ref w7, .ref w8, .ref w9, .int 0, .int 0, .int 0, .ref w10, .ref w11, .int 0, .ref w12, .ref w13, .ref w14, .ref w15, .ref w16, .ref w17, .ref w18, .ref w19, .ref w20, .int 0, .ref w21, .ref w22, .int 0, .int 0, .int 0])), (b1, .inl (k.2.1, 1360, .inl fa))] 1892 [(3, .int 0), (2, .ref m0), (1, .ref h0), (0, .ref b)] [] := by
  obtain ⟨hx, hb, hr, hml, hown, hts, hX, hbl, hlocks, hgv⟩ := id C0
  have hA : ∀ q : Nat, s.heap.size ≤ q → (fun q : Nat => s.heap.size ≤ q) q := fun _ h => h
  have hbA : ¬ (fun q : Nat => s.heap.size ≤ q) b := Nat.not_le.mpr hbl
  refine jy_aload_n (pc' := 1893) F 2 dL_law_1892 rfl rfl rfl ?_
  refine jy_aload_n (pc' := 1894) F 3 dL_law_1893 rfl rfl rfl ?_
  refine jy_iload_n (pc' := 1895) F 0 dL_law_1894 rfl rfl rfl ?_
  refine jy_iconst (pc' := 1896) (v := 1) F dL_law_1895 (by decide) rfl ?_
  refine jy_iadd (pc' := 1897) (v := 1) F dL_law_1896 (by decide) rfl ?_
  refine jy_sld (pc' := 1898) (v := (sq 1)) F hX hbl hbA dL_law_1897 (vp_in_nI (n := 1) (by decide) (by decide)) rfl rfl ?_
  refine jy_aload_n (pc' := 1899) F 3 dL_law_1898 rfl rfl rfl ?_
  refine jy_iload_n (pc' := 1900) F 0 dL_law_1899 rfl rfl rfl ?_
  refine jy_iconst (pc' := 1901) (v := 2) F dL_law_1900 (by decide) rfl ?_
  refine jy_iadd (pc' := 1902) (v := 2) F dL_law_1901 (by decide) rfl ?_
  refine jy_sld (pc' := 1903) (v := (sq 2)) F hX hbl hbA dL_law_1902 (vp_in_nI (n := 2) (by decide) (by decide)) rfl rfl ?_
  refine jy_aload_n (pc' := 1904) F 3 dL_law_1903 rfl rfl rfl ?_
  refine jy_iload_n (pc' := 1905) F 0 dL_law_1904 rfl rfl rfl ?_
  refine jy_iconst (pc' := 1906) (v := 3) F dL_law_1905 (by decide) rfl ?_
  refine jy_iadd (pc' := 1907) (v := 3) F dL_law_1906 (by decide) rfl ?_
  refine jy_sld (pc' := 1908) (v := (sq 3)) F hX hbl hbA dL_law_1907 (vp_in_nI (n := 3) (by decide) (by decide)) rfl rfl ?_
  refine jy_aload_n (pc' := 1909) F 3 dL_law_1908 rfl rfl rfl ?_
  refine jy_iload_n (pc' := 1910) F 0 dL_law_1909 rfl rfl rfl ?_
  refine jy_iconst (pc' := 1911) (v := 4) F dL_law_1910 (by decide) rfl ?_
  refine jy_iadd (pc' := 1912) (v := 4) F dL_law_1911 (by decide) rfl ?_
  refine jy_sld (pc' := 1913) (v := (sq 4)) F hX hbl hbA dL_law_1912 (vp_in_nI (n := 4) (by decide) (by decide)) rfl rfl ?_
  refine jy_calli (pc' := 1916) (cells' := 194) (slots' := 18023) (wr := [(m0, .inr (11, [.ref b1, .ref b2, .int 0, .long 0, .long 1, .ref b3, .ref b4, .ref b5, .ref b6, .ref b7, .int 0, .int 0, .int 0, .int 0, .int 0, .int 0, .int (-1), .int (-1), .int 0, .int 0, .ref w0, .ref w1, .ref w2, .ref w3, .ref w4, .ref w5, .ref w6, .ref w7, .ref w8, .ref w9, .int 0, .int 0, .int 0, .ref w10, .ref w11, .int 0, .ref w12, .ref w13, .ref w14, .ref w15, .ref w16, .ref w17, .ref w18, .ref w19, .ref w20, .int 0, .ref w21, .ref w22, .int 0, .int 0, .int 0])), (b1, .inl (k.2.1, 1360, .inl fa))]) hA [0, 1] [2, 3] rfl rfl (by decide) (by decide) (jy_runV (As := [.int (sq 1), .int (sq 2), .int (sq 3), .int (sq 4)]) (b := h0) (q0 := 0) (ci := 10) (C := RX11) (T := TX11) (N := 15) (st := []) F hN (fun sz => c_X11_chance l D k h0 a2 a4 a5 a6 a7 a8 a9 a10 t0 s0 s1 s2 s3 (sq 1) (sq 2) (sq 3) (sq 4) sz ) (jy_cV F gl_c_X11_chance rfl hdX11_chance (lm_171) (lm_1542) (lm_1543) (lm_1544) rfl rfl ⟨by decide, by decide⟩) rfl rfl [0, 1] rfl (by decide) rfl rfl (Nat.le_of_ble_eq_true rfl) dL_law_1913 ⟨by decide, by decide⟩) rfl rfl rfl (fun r_3 u_1 e_2 => ?_)
  subst e_2
  refine jy_aload_n (pc' := 1917) F 1 dL_law_1916 rfl rfl rfl ?_
  refine jy_aload_n (pc' := 1918) F 3 dL_law_1917 rfl rfl rfl ?_
  refine jy_iload_n (pc' := 1919) F 0 dL_law_1918 rfl rfl rfl ?_
  refine jy_iconst (pc' := 1920) (v := 1) F dL_law_1919 (by decide) rfl ?_
  refine jy_iadd (pc' := 1921) (v := 1) F dL_law_1920 (by decide) rfl ?_
  refine jy_sld (pc' := 1922) (v := (sq 1)) F hX hbl hbA dL_law_1921 (vp_in_nI (n := 1) (by decide) (by decide)) rfl rfl ?_
  refine jy_aload_n (pc' := 1923) F 3 dL_law_1922 rfl rfl rfl ?_
  refine jy_iload_n (pc' := 1924) F 0 dL_law_1923 rfl rfl rfl ?_
  refine jy_iconst (pc' := 1925) (v := 2) F dL_law_1924 (by decide) rfl ?_
  refine jy_iadd (pc' := 1926) (v := 2) F dL_law_1925 (by decide) rfl ?_
  refine jy_sld (pc' := 1927) (v := (sq 2)) F hX hbl hbA dL_law_1926 (vp_in_nI (n := 2) (by decide) (by decide)) rfl rfl ?_
  refine jy_aload_n (pc' := 1928) F 3 dL_law_1927 rfl rfl rfl ?_
  refine jy_iload_n (pc' := 1929) F 0 dL_law_1928 rfl rfl rfl ?_
  refine jy_iconst (pc' := 1930) (v := 3) F dL_law_1929 (by decide) rfl ?_
  refine jy_iadd (pc' := 1931) (v := 3) F dL_law_1930 (by decide) rfl ?_
  refine jy_sld (pc' := 1932) (v := (sq 3)) F hX hbl hbA dL_law_1931 (vp_in_nI (n := 3) (by decide) (by decide)) rfl rfl ?_
  refine jy_aload_n (pc' := 1933) F 3 dL_law_1932 rfl rfl rfl ?_
  refine jy_iload_n (pc' := 1934) F 0 dL_law_1933 rfl rfl rfl ?_
  refine jy_iconst (pc' := 1935) (v := 4) F dL_law_1934 (by decide) rfl ?_
  refine jy_iadd (pc' := 1936) (v := 4) F dL_law_1935 (by decide) rfl ?_
  refine jy_sld (pc' := 1937) (v := (sq 4)) F hX hbl hbA dL_law_1936 (vp_in_nI (n := 4) (by decide) (by decide)) rfl rfl ?_
  refine jy_calli (pc' := 1940) (cells' := 194) (slots' := 18023) (wr := []) hA [0, 1] [] rfl rfl (by decide) (by decide) (jy_runV (As := [.int (sq 1), .int (sq 2), .int (sq 3), .int (sq 4)]) (b := m0) (q0 := 0) (ci := 11) (C := RX12) (T := TX12) (N := 51) (st := [.int 0]) F hN (fun sz => c_X12_chance l D k m0 b1 b2 b3 b4 b5 b6 b7 w0 w1 w2 w3 w4 w5 w6 w7 w8 w9 w10 w11 w12 w13 w14 w15 w16 w17 w18 w19 w20 w21 w22 fa (sq 1) (sq 2) (sq 3) (sq 4) sz (ha)) (jy_cV F gl_c_X12_chance rfl hdX12_chance (lm_185) (lm_2315) (lm_2316) (lm_2317) rfl rfl ⟨by decide, by decide⟩) rfl rfl [0, 1] rfl (by decide) rfl rfl (Nat.le_of_ble_eq_true rfl) dL_law_1937 ⟨by decide, by decide⟩) rfl rfl rfl (fun r_6 u_4 e_5 => ?_)
  subst e_5
  refine jy_icmp_eq (pc' := 1943) (tgt := 2053) F dL_law_1940 (by decide) rfl (fun _ => ?_) (fun h => absurd h (by decide))
  refine jy_iinc (pc' := 2056) (v := 6) (lv' := [(3, .int 6), (2, .ref m0), (1, .ref h0), (0, .ref b)]) F 0 dL_law_2053 rfl (by decide) (by decide) rfl rfl ?_
  refine jy_goto (tgt := 18) F dL_law_2056 (by decide) ?_
  refine jy_iload_n (pc' := 19) F 0 dL_law_18 rfl rfl rfl ?_
  refine jy_aload_n (pc' := 20) F 3 dL_law_19 rfl rfl rfl ?_
  refine jy_slen (pc' := 21) (v := 6) F hX hbl hbA dL_law_20 rfl rfl ?_
  refine jy_bipush (pc' := 23) (v := 6) F dL_law_21 (by decide) rfl ?_
  refine jy_isub (pc' := 24) (v := 0) F dL_law_23 (by decide) rfl ?_
  refine jy_icmp_gt (pc' := 27) (tgt := 2059) F dL_law_24 (by decide) rfl (fun _ => ?_) (fun h => absurd h (by decide))
  refine jy_iconst (pc' := 2060) (v := 1) F dL_law_2059 (by decide) rfl ?_
  exact jy_lawret F hr hlocks (by decide) (by decide) dL_law_2060
set_option maxHeartbeats 4000000 in
set_option maxRecDepth 100000 in
theorem lc_watch {p : Program} {e : Env} {s : State} {m : MethodId} {below : List Frame} {meth : Method} {c : Code} (l : Launch) {b : Nat} {sq : Nat → Int32} (C0 : lw_At p s m meth c b 6 sq) (D : va_G) (k : jK) (F : jy_F p m c code 4 s #[Value.ref b] lw_tbl R_law D vwCl (jT k)) (hN : jy_N jW s) (h0 : Nat) (a2 : Nat) (a4 : Nat) (a5 : Nat) (a6 : Nat) (a7 : Nat) (a8 : Nat) (a9 : Nat) (a10 : Nat) (t0 : Nat) (s0 : Nat) (s1 : Nat) (s2 : Nat) (s3 : Nat) (m0 : Nat) (b1 : Nat) (b2 : Nat) (b3 : Nat) (b4 : Nat) (b5 : Nat) (b6 : Nat) (b7 : Nat) (w0 : Nat) (w1 : Nat) (w2 : Nat) (w3 : Nat) (w4 : Nat) (w5 : Nat) (w6 : Nat) (w7 : Nat) (w8 : Nat) (w9 : Nat) (w10 : Nat) (w11 : Nat) (w12 : Nat) (w13 : Nat) (w14 : Nat) (w15 : Nat) (w16 : Nat) (w17 : Nat) (w18 : Nat) (w19 : Nat) (w20 : Nat) (w21 : Nat) (w22 : Nat) (fa : Nat → Int32) (ha : fa 4 = -1 ∧ ∀ j, j ≠ 4 → fa j = 0) : JJ p l e room_1 s m #[Value.ref b] below meth c (lw_Z below #[Value.ref b] s) 4 D vwCl (fun q => s.heap.size ≤ q) (va_S (fun q => s.heap.size ≤ q) s.heap) 194 18023 [(h0, .inr (10, [.int 0, .long 0, .long 1, .ref t0, .ref a2, .ref s0, .ref a4, .int 0, .ref a5, .ref a6, .ref a7, .ref a8, .ref a9, .ref a10, .int 0])), (s0, .inr (4, [.int 0, .int 0, .int 0, .int 0, .ref s1, .ref s2, .ref s3])), (m0, .inr (11, [.ref b1, .ref b2, .int 0, .long 0, .long 1, .ref b3, .ref b4, .ref b5, .ref b6, .ref b7, .int 0, .int 0, .int 0, .int 0, .int 0, .int 0, .int (-1), .int (-1), .int 0, .int 0, .ref w0, .ref w1, .ref w2, .ref w3, .ref w4, .ref w5, .ref w6, .ref w7, .ref w8, .ref w9, .int 0, .int 0, .int 0, .ref w10, .ref w11, .int 0, .ref w12, .ref w13, .ref w14, .ref w15, .ref w16, .ref w17, .ref w18, .ref w19, .ref w20, .int 0, .ref w21, .ref w22, .int 0, .int 0, .int 0])), (b1, .inl (k.2.1, 1360, .inl fa))] 1945 [(3, .int 0), (2, .ref m0), (1, .ref h0), (0, .ref b)] [] := by
  obtain ⟨hx, hb, hr, hml, hown, hts, hX, hbl, hlocks, hgv⟩ := id C0
  have hA : ∀ q : Nat, s.heap.size ≤ q → (fun q : Nat => s.heap.size ≤ q) q := fun _ h => h
  have hbA : ¬ (fun q : Nat => s.heap.size ≤ q) b := Nat.not_le.mpr hbl
  refine jy_aload_n (pc' := 1946) F 2 dL_law_1945 rfl rfl rfl ?_
  refine jy_aload_n (pc' := 1947) F 3 dL_law_1946 rfl rfl rfl ?_
  refine jy_iload_n (pc' := 1948) F 0 dL_law_1947 rfl rfl rfl ?_
  refine jy_iconst (pc' := 1949) (v := 1) F dL_law_1948 (by decide) rfl ?_
  refine jy_iadd (pc' := 1950) (v := 1) F dL_law_1949 (by decide) rfl ?_
  refine jy_sld (pc' := 1951) (v := (sq 1)) F hX hbl hbA dL_law_1950 (vp_in_nI (n := 1) (by decide) (by decide)) rfl rfl ?_
  refine jy_calli (pc' := 1954) (cells' := 194) (slots' := 18023) (wr := [(m0, .inr (11, [.ref b1, .ref b2, .int 0, .long 0, .long 1, .ref b3, .ref b4, .ref b5, .ref b6, .ref b7, .int 0, .int 0, .int 0, .int 0, .int 0, .int 0, .int (-1), .int (-1), .int 0, .int 0, .ref w0, .ref w1, .ref w2, .ref w3, .ref w4, .ref w5, .ref w6, .ref w7, .ref w8, .ref w9, .int 0, .int 0, .int 0, .ref w10, .ref w11, .int 0, .ref w12, .ref w13, .ref w14, .ref w15, .ref w16, .ref w17, .ref w18, .ref w19, .ref w20, .int 0, .ref w21, .ref w22, .int 0, .int 0, .int 0])), (b1, .inl (k.2.1, 1360, .inl fa))]) hA [0, 1] [2, 3] rfl rfl (by decide) (by decide) (jy_runV (As := [.int (sq 1)]) (b := h0) (q0 := 0) (ci := 10) (C := RX11) (T := TX11) (N := 15) (st := []) F hN (fun sz => c_X11_watch l D k h0 a2 a4 a5 a6 a7 a8 a9 a10 t0 s0 s1 s2 s3 (sq 1) sz ) (jy_cV F gl_c_X11_watch rfl hdX11_watch (lm_171) (lm_1550) (lm_1551) (lm_1552) rfl rfl ⟨by decide, by decide⟩) rfl rfl [0, 1] rfl (by decide) rfl rfl (Nat.le_of_ble_eq_true rfl) dL_law_1951 ⟨by decide, by decide⟩) rfl rfl rfl (fun r_3 u_1 e_2 => ?_)
  subst e_2
  refine jy_aload_n (pc' := 1955) F 1 dL_law_1954 rfl rfl rfl ?_
  refine jy_aload_n (pc' := 1956) F 3 dL_law_1955 rfl rfl rfl ?_
  refine jy_iload_n (pc' := 1957) F 0 dL_law_1956 rfl rfl rfl ?_
  refine jy_iconst (pc' := 1958) (v := 1) F dL_law_1957 (by decide) rfl ?_
  refine jy_iadd (pc' := 1959) (v := 1) F dL_law_1958 (by decide) rfl ?_
  refine jy_sld (pc' := 1960) (v := (sq 1)) F hX hbl hbA dL_law_1959 (vp_in_nI (n := 1) (by decide) (by decide)) rfl rfl ?_
  refine jy_calli (pc' := 1963) (cells' := 194) (slots' := 18023) (wr := []) hA [0, 1] [] rfl rfl (by decide) (by decide) (jy_runV (As := [.int (sq 1)]) (b := m0) (q0 := 0) (ci := 11) (C := RX12) (T := TX12) (N := 51) (st := [.int (-1)]) F hN (fun sz => c_X12_watch l D k m0 b1 b2 b3 b4 b5 b6 b7 w0 w1 w2 w3 w4 w5 w6 w7 w8 w9 w10 w11 w12 w13 w14 w15 w16 w17 w18 w19 w20 w21 w22 fa (sq 1) sz (ha)) (jy_cV F gl_c_X12_watch rfl hdX12_watch (lm_185) (lm_2320) (lm_2321) (lm_2322) rfl rfl ⟨by decide, by decide⟩) rfl rfl [0, 1] rfl (by decide) rfl rfl (Nat.le_of_ble_eq_true rfl) dL_law_1960 ⟨by decide, by decide⟩) rfl rfl rfl (fun r_6 u_4 e_5 => ?_)
  subst e_5
  refine jy_icmp_eq (pc' := 1966) (tgt := 2053) F dL_law_1963 (by decide) rfl (fun _ => ?_) (fun h => absurd h (by decide))
  refine jy_iinc (pc' := 2056) (v := 6) (lv' := [(3, .int 6), (2, .ref m0), (1, .ref h0), (0, .ref b)]) F 0 dL_law_2053 rfl (by decide) (by decide) rfl rfl ?_
  refine jy_goto (tgt := 18) F dL_law_2056 (by decide) ?_
  refine jy_iload_n (pc' := 19) F 0 dL_law_18 rfl rfl rfl ?_
  refine jy_aload_n (pc' := 20) F 3 dL_law_19 rfl rfl rfl ?_
  refine jy_slen (pc' := 21) (v := 6) F hX hbl hbA dL_law_20 rfl rfl ?_
  refine jy_bipush (pc' := 23) (v := 6) F dL_law_21 (by decide) rfl ?_
  refine jy_isub (pc' := 24) (v := 0) F dL_law_23 (by decide) rfl ?_
  refine jy_icmp_gt (pc' := 27) (tgt := 2059) F dL_law_24 (by decide) rfl (fun _ => ?_) (fun h => absurd h (by decide))
  refine jy_iconst (pc' := 2060) (v := 1) F dL_law_2059 (by decide) rfl ?_
  exact jy_lawret F hr hlocks (by decide) (by decide) dL_law_2060
set_option maxHeartbeats 4000000 in
set_option maxRecDepth 100000 in
theorem lc_see {p : Program} {e : Env} {s : State} {m : MethodId} {below : List Frame} {meth : Method} {c : Code} (l : Launch) {b : Nat} {sq : Nat → Int32} (C0 : lw_At p s m meth c b 6 sq) (D : va_G) (k : jK) (F : jy_F p m c code 4 s #[Value.ref b] lw_tbl R_law D vwCl (jT k)) (hN : jy_N jW s) (h0 : Nat) (a2 : Nat) (a4 : Nat) (a5 : Nat) (a6 : Nat) (a7 : Nat) (a8 : Nat) (a9 : Nat) (a10 : Nat) (t0 : Nat) (s0 : Nat) (s1 : Nat) (s2 : Nat) (s3 : Nat) (m0 : Nat) (b1 : Nat) (b2 : Nat) (b3 : Nat) (b4 : Nat) (b5 : Nat) (b6 : Nat) (b7 : Nat) (w0 : Nat) (w1 : Nat) (w2 : Nat) (w3 : Nat) (w4 : Nat) (w5 : Nat) (w6 : Nat) (w7 : Nat) (w8 : Nat) (w9 : Nat) (w10 : Nat) (w11 : Nat) (w12 : Nat) (w13 : Nat) (w14 : Nat) (w15 : Nat) (w16 : Nat) (w17 : Nat) (w18 : Nat) (w19 : Nat) (w20 : Nat) (w21 : Nat) (w22 : Nat) (fa : Nat → Int32) (ha : fa 4 = -1 ∧ ∀ j, j ≠ 4 → fa j = 0) : JJ p l e room_1 s m #[Value.ref b] below meth c (lw_Z below #[Value.ref b] s) 4 D vwCl (fun q => s.heap.size ≤ q) (va_S (fun q => s.heap.size ≤ q) s.heap) 194 18023 [(h0, .inr (10, [.int 0, .long 0, .long 1, .ref t0, .ref a2, .ref s0, .ref a4, .int 0, .ref a5, .ref a6, .ref a7, .ref a8, .ref a9, .ref a10, .int 0])), (s0, .inr (4, [.int 0, .int 0, .int 0, .int 0, .ref s1, .ref s2, .ref s3])), (m0, .inr (11, [.ref b1, .ref b2, .int 0, .long 0, .long 1, .ref b3, .ref b4, .ref b5, .ref b6, .ref b7, .int 0, .int 0, .int 0, .int 0, .int 0, .int 0, .int (-1), .int (-1), .int 0, .int 0, .ref w0, .ref w1, .ref w2, .ref w3, .ref w4, .ref w5, .ref w6, .ref w7, .ref w8, .ref w9, .int 0, .int 0, .int 0, .ref w10, .ref w11, .int 0, .ref w12, .ref w13, .ref w14, .ref w15, .ref w16, .ref w17, .ref w18, .ref w19, .ref w20, .int 0, .ref w21, .ref w22, .int 0, .int 0, .int 0])), (b1, .inl (k.2.1, 1360, .inl fa))] 1968 [(3, .int 0), (2, .ref m0), (1, .ref h0), (0, .ref b)] [] := by
  obtain ⟨hx, hb, hr, hml, hown, hts, hX, hbl, hlocks, hgv⟩ := id C0
  have hA : ∀ q : Nat, s.heap.size ≤ q → (fun q : Nat => s.heap.size ≤ q) q := fun _ h => h
  have hbA : ¬ (fun q : Nat => s.heap.size ≤ q) b := Nat.not_le.mpr hbl
  refine jy_aload_n (pc' := 1969) F 2 dL_law_1968 rfl rfl rfl ?_
  refine jy_aload_n (pc' := 1970) F 3 dL_law_1969 rfl rfl rfl ?_
  refine jy_iload_n (pc' := 1971) F 0 dL_law_1970 rfl rfl rfl ?_
  refine jy_iconst (pc' := 1972) (v := 1) F dL_law_1971 (by decide) rfl ?_
  refine jy_iadd (pc' := 1973) (v := 1) F dL_law_1972 (by decide) rfl ?_
  refine jy_sld (pc' := 1974) (v := (sq 1)) F hX hbl hbA dL_law_1973 (vp_in_nI (n := 1) (by decide) (by decide)) rfl rfl ?_
  refine jy_calli (pc' := 1977) (cells' := 194) (slots' := 18023) (wr := [(m0, .inr (11, [.ref b1, .ref b2, .int 0, .long 0, .long 1, .ref b3, .ref b4, .ref b5, .ref b6, .ref b7, .int 0, .int 0, .int 0, .int 0, .int 0, .int 0, .int (-1), .int (-1), .int 0, .int 0, .ref w0, .ref w1, .ref w2, .ref w3, .ref w4, .ref w5, .ref w6, .ref w7, .ref w8, .ref w9, .int 0, .int 0, .int 0, .ref w10, .ref w11, .int 0, .ref w12, .ref w13, .ref w14, .ref w15, .ref w16, .ref w17, .ref w18, .ref w19, .ref w20, .int 0, .ref w21, .ref w22, .int 0, .int 0, .int 0])), (b1, .inl (k.2.1, 1360, .inl fa))]) hA [0, 1] [2, 3] rfl rfl (by decide) (by decide) (jy_runV (As := [.int (sq 1)]) (b := h0) (q0 := 0) (ci := 10) (C := RX11) (T := TX11) (N := 15) (st := []) F hN (fun sz => c_X11_see l D k h0 a2 a4 a5 a6 a7 a8 a9 a10 t0 s0 s1 s2 s3 (sq 1) sz ) (jy_cV F gl_c_X11_see rfl hdX11_see (lm_171) (lm_1554) (lm_1555) (lm_1556) rfl rfl ⟨by decide, by decide⟩) rfl rfl [0, 1] rfl (by decide) rfl rfl (Nat.le_of_ble_eq_true rfl) dL_law_1974 ⟨by decide, by decide⟩) rfl rfl rfl (fun r_3 u_1 e_2 => ?_)
  subst e_2
  refine jy_aload_n (pc' := 1978) F 1 dL_law_1977 rfl rfl rfl ?_
  refine jy_aload_n (pc' := 1979) F 3 dL_law_1978 rfl rfl rfl ?_
  refine jy_iload_n (pc' := 1980) F 0 dL_law_1979 rfl rfl rfl ?_
  refine jy_iconst (pc' := 1981) (v := 1) F dL_law_1980 (by decide) rfl ?_
  refine jy_iadd (pc' := 1982) (v := 1) F dL_law_1981 (by decide) rfl ?_
  refine jy_sld (pc' := 1983) (v := (sq 1)) F hX hbl hbA dL_law_1982 (vp_in_nI (n := 1) (by decide) (by decide)) rfl rfl ?_
  refine jy_calli (pc' := 1986) (cells' := 194) (slots' := 18023) (wr := []) hA [0, 1] [] rfl rfl (by decide) (by decide) (jy_runV (As := [.int (sq 1)]) (b := m0) (q0 := 0) (ci := 11) (C := RX12) (T := TX12) (N := 51) (st := [.int (-1)]) F hN (fun sz => c_X12_see l D k m0 b1 b2 b3 b4 b5 b6 b7 w0 w1 w2 w3 w4 w5 w6 w7 w8 w9 w10 w11 w12 w13 w14 w15 w16 w17 w18 w19 w20 w21 w22 fa (sq 1) sz (ha)) (jy_cV F gl_c_X12_see rfl hdX12_see (lm_185) (lm_2328) (lm_2329) (lm_2330) rfl rfl ⟨by decide, by decide⟩) rfl rfl [0, 1] rfl (by decide) rfl rfl (Nat.le_of_ble_eq_true rfl) dL_law_1983 ⟨by decide, by decide⟩) rfl rfl rfl (fun r_6 u_4 e_5 => ?_)
  subst e_5
  refine jy_icmp_eq (pc' := 1989) (tgt := 2053) F dL_law_1986 (by decide) rfl (fun _ => ?_) (fun h => absurd h (by decide))
  refine jy_iinc (pc' := 2056) (v := 6) (lv' := [(3, .int 6), (2, .ref m0), (1, .ref h0), (0, .ref b)]) F 0 dL_law_2053 rfl (by decide) (by decide) rfl rfl ?_
  refine jy_goto (tgt := 18) F dL_law_2056 (by decide) ?_
  refine jy_iload_n (pc' := 19) F 0 dL_law_18 rfl rfl rfl ?_
  refine jy_aload_n (pc' := 20) F 3 dL_law_19 rfl rfl rfl ?_
  refine jy_slen (pc' := 21) (v := 6) F hX hbl hbA dL_law_20 rfl rfl ?_
  refine jy_bipush (pc' := 23) (v := 6) F dL_law_21 (by decide) rfl ?_
  refine jy_isub (pc' := 24) (v := 0) F dL_law_23 (by decide) rfl ?_
  refine jy_icmp_gt (pc' := 27) (tgt := 2059) F dL_law_24 (by decide) rfl (fun _ => ?_) (fun h => absurd h (by decide))
  refine jy_iconst (pc' := 2060) (v := 1) F dL_law_2059 (by decide) rfl ?_
  exact jy_lawret F hr hlocks (by decide) (by decide) dL_law_2060
set_option maxHeartbeats 4000000 in
set_option maxRecDepth 100000 in
theorem lc_seen {p : Program} {e : Env} {s : State} {m : MethodId} {below : List Frame} {meth : Method} {c : Code} (l : Launch) {b : Nat} {sq : Nat → Int32} (C0 : lw_At p s m meth c b 6 sq) (D : va_G) (k : jK) (F : jy_F p m c code 4 s #[Value.ref b] lw_tbl R_law D vwCl (jT k)) (hN : jy_N jW s) (h0 : Nat) (a2 : Nat) (a4 : Nat) (a5 : Nat) (a6 : Nat) (a7 : Nat) (a8 : Nat) (a9 : Nat) (a10 : Nat) (t0 : Nat) (s0 : Nat) (s1 : Nat) (s2 : Nat) (s3 : Nat) (m1 : Nat) (m2 : Nat) (m3 : Nat) (m0 : Nat) (b1 : Nat) (b2 : Nat) (b3 : Nat) (b4 : Nat) (b5 : Nat) (b6 : Nat) (b7 : Nat) (w0 : Nat) (w1 : Nat) (w2 : Nat) (w3 : Nat) (w4 : Nat) (w5 : Nat) (w6 : Nat) (w7 : Nat) (w8 : Nat) (w9 : Nat) (w10 : Nat) (w11 : Nat) (w12 : Nat) (w13 : Nat) (w14 : Nat) (w15 : Nat) (w16 : Nat) (w17 : Nat) (w18 : Nat) (w19 : Nat) (w20 : Nat) (w21 : Nat) (w22 : Nat) (fa : Nat → Int32) (ha : fa 4 = -1 ∧ ∀ j, j ≠ 4 → fa j = 0) : JJ p l e room_1 s m #[Value.ref b] below meth c (lw_Z below #[Value.ref b] s) 4 D vwCl (fun q => s.heap.size ≤ q) (va_S (fun q => s.heap.size ≤ q) s.heap) 194 18023 [(h0, .inr (10, [.int 0, .long 0, .long 1, .ref t0, .ref a2, .ref s0, .ref a4, .int 0, .ref a5, .ref a6, .ref a7, .ref a8, .ref a9, .ref a10, .int 0])), (s0, .inr (4, [.int 0, .int 0, .int 0, .int 0, .ref s1, .ref s2, .ref s3])), (s3, .inr (9, [.int (-1), .int 0, .int 0, .int 0, .int 0, .ref m1, .ref m2, .ref m3])), (m0, .inr (11, [.ref b1, .ref b2, .int 0, .long 0, .long 1, .ref b3, .ref b4, .ref b5, .ref b6, .ref b7, .int 0, .int 0, .int 0, .int 0, .int 0, .int 0, .int (-1), .int (-1), .int 0, .int 0, .ref w0, .ref w1, .ref w2, .ref w3, .ref w4, .ref w5, .ref w6, .ref w7, .ref w8, .ref w9, .int 0, .int 0, .int 0, .ref w10, .ref w11, .int 0, .ref w12, .ref w13, .ref w14, .ref w15, .ref w16, .ref w17, .ref w18, .ref w19, .ref w20, .int 0, .ref w21, .ref w22, .int 0, .int 0, .int 0])), (b1, .inl (k.2.1, 1360, .inl fa))] 1991 [(3, .int 0), (2, .ref m0), (1, .ref h0), (0, .ref b)] [] := by
  obtain ⟨hx, hb, hr, hml, hown, hts, hX, hbl, hlocks, hgv⟩ := id C0
  have hA : ∀ q : Nat, s.heap.size ≤ q → (fun q : Nat => s.heap.size ≤ q) q := fun _ h => h
  have hbA : ¬ (fun q : Nat => s.heap.size ≤ q) b := Nat.not_le.mpr hbl
  refine jy_aload_n (pc' := 1992) F 2 dL_law_1991 rfl rfl rfl ?_
  refine jy_aload_n (pc' := 1993) F 3 dL_law_1992 rfl rfl rfl ?_
  refine jy_iload_n (pc' := 1994) F 0 dL_law_1993 rfl rfl rfl ?_
  refine jy_iconst (pc' := 1995) (v := 1) F dL_law_1994 (by decide) rfl ?_
  refine jy_iadd (pc' := 1996) (v := 1) F dL_law_1995 (by decide) rfl ?_
  refine jy_sld (pc' := 1997) (v := (sq 1)) F hX hbl hbA dL_law_1996 (vp_in_nI (n := 1) (by decide) (by decide)) rfl rfl ?_
  refine jy_calli (pc' := 2000) (cells' := 194) (slots' := 18023) (wr := [(m0, .inr (11, [.ref b1, .ref b2, .int 0, .long 0, .long 1, .ref b3, .ref b4, .ref b5, .ref b6, .ref b7, .int 0, .int 0, .int 0, .int 0, .int 0, .int 0, .int (-1), .int (-1), .int 0, .int 0, .ref w0, .ref w1, .ref w2, .ref w3, .ref w4, .ref w5, .ref w6, .ref w7, .ref w8, .ref w9, .int 0, .int 0, .int 0, .ref w10, .ref w11, .int 0, .ref w12, .ref w13, .ref w14, .ref w15, .ref w16, .ref w17, .ref w18, .ref w19, .ref w20, .int 0, .ref w21, .ref w22, .int 0, .int 0, .int 0])), (b1, .inl (k.2.1, 1360, .inl fa))]) hA [0, 1, 2] [3, 4] rfl rfl (by decide) (by decide) (jy_runV (As := [.int (sq 1)]) (b := h0) (q0 := 0) (ci := 10) (C := RX11) (T := TX11) (N := 15) (st := []) F hN (fun sz => c_X11_seen l D k h0 a2 a4 a5 a6 a7 a8 a9 a10 t0 s0 s1 s2 s3 m1 m2 m3 (sq 1) sz ) (jy_cV F gl_c_X11_seen rfl hdX11_seen (lm_171) (lm_1558) (lm_1559) (lm_1560) rfl rfl ⟨by decide, by decide⟩) rfl rfl [0, 1, 2] rfl (by decide) rfl rfl (Nat.le_of_ble_eq_true rfl) dL_law_1997 ⟨by decide, by decide⟩) rfl rfl rfl (fun r_3 u_1 e_2 => ?_)
  subst e_2
  refine jy_aload_n (pc' := 2001) F 1 dL_law_2000 rfl rfl rfl ?_
  refine jy_aload_n (pc' := 2002) F 3 dL_law_2001 rfl rfl rfl ?_
  refine jy_iload_n (pc' := 2003) F 0 dL_law_2002 rfl rfl rfl ?_
  refine jy_iconst (pc' := 2004) (v := 1) F dL_law_2003 (by decide) rfl ?_
  refine jy_iadd (pc' := 2005) (v := 1) F dL_law_2004 (by decide) rfl ?_
  refine jy_sld (pc' := 2006) (v := (sq 1)) F hX hbl hbA dL_law_2005 (vp_in_nI (n := 1) (by decide) (by decide)) rfl rfl ?_
  refine jy_calli (pc' := 2009) (cells' := 194) (slots' := 18023) (wr := []) hA [0, 1] [] rfl rfl (by decide) (by decide) (jy_runV (As := [.int (sq 1)]) (b := m0) (q0 := 0) (ci := 11) (C := RX12) (T := TX12) (N := 51) (st := [.int (-1)]) F hN (fun sz => c_X12_seen l D k m0 b1 b2 b3 b4 b5 b6 b7 w0 w1 w2 w3 w4 w5 w6 w7 w8 w9 w10 w11 w12 w13 w14 w15 w16 w17 w18 w19 w20 w21 w22 fa (sq 1) sz (ha)) (jy_cV F gl_c_X12_seen rfl hdX12_seen (lm_185) (lm_2340) (lm_2341) (lm_2342) rfl rfl ⟨by decide, by decide⟩) rfl rfl [0, 1] rfl (by decide) rfl rfl (Nat.le_of_ble_eq_true rfl) dL_law_2006 ⟨by decide, by decide⟩) rfl rfl rfl (fun r_6 u_4 e_5 => ?_)
  subst e_5
  refine jy_icmp_eq (pc' := 2012) (tgt := 2053) F dL_law_2009 (by decide) rfl (fun _ => ?_) (fun h => absurd h (by decide))
  refine jy_iinc (pc' := 2056) (v := 6) (lv' := [(3, .int 6), (2, .ref m0), (1, .ref h0), (0, .ref b)]) F 0 dL_law_2053 rfl (by decide) (by decide) rfl rfl ?_
  refine jy_goto (tgt := 18) F dL_law_2056 (by decide) ?_
  refine jy_iload_n (pc' := 19) F 0 dL_law_18 rfl rfl rfl ?_
  refine jy_aload_n (pc' := 20) F 3 dL_law_19 rfl rfl rfl ?_
  refine jy_slen (pc' := 21) (v := 6) F hX hbl hbA dL_law_20 rfl rfl ?_
  refine jy_bipush (pc' := 23) (v := 6) F dL_law_21 (by decide) rfl ?_
  refine jy_isub (pc' := 24) (v := 0) F dL_law_23 (by decide) rfl ?_
  refine jy_icmp_gt (pc' := 27) (tgt := 2059) F dL_law_24 (by decide) rfl (fun _ => ?_) (fun h => absurd h (by decide))
  refine jy_iconst (pc' := 2060) (v := 1) F dL_law_2059 (by decide) rfl ?_
  exact jy_lawret F hr hlocks (by decide) (by decide) dL_law_2060
set_option maxHeartbeats 4000000 in
set_option maxRecDepth 100000 in
theorem lc_doomed {p : Program} {e : Env} {s : State} {m : MethodId} {below : List Frame} {meth : Method} {c : Code} (l : Launch) {b : Nat} {sq : Nat → Int32} (C0 : lw_At p s m meth c b 6 sq) (D : va_G) (k : jK) (F : jy_F p m c code 4 s #[Value.ref b] lw_tbl R_law D vwCl (jT k)) (hN : jy_N jW s) (h0 : Nat) (a2 : Nat) (a4 : Nat) (a5 : Nat) (a6 : Nat) (a7 : Nat) (a8 : Nat) (a9 : Nat) (a10 : Nat) (t0 : Nat) (s0 : Nat) (s1 : Nat) (s2 : Nat) (s3 : Nat) (m1 : Nat) (m2 : Nat) (m3 : Nat) (m0 : Nat) (b1 : Nat) (b2 : Nat) (b3 : Nat) (b4 : Nat) (b5 : Nat) (b6 : Nat) (b7 : Nat) (w0 : Nat) (w1 : Nat) (w2 : Nat) (w3 : Nat) (w4 : Nat) (w5 : Nat) (w6 : Nat) (w7 : Nat) (w8 : Nat) (w9 : Nat) (w10 : Nat) (w11 : Nat) (w12 : Nat) (w13 : Nat) (w14 : Nat) (w15 : Nat) (w16 : Nat) (w17 : Nat) (w18 : Nat) (w19 : Nat) (w20 : Nat) (w21 : Nat) (w22 : Nat) (fa : Nat → Int32) (ha : fa 4 = -1 ∧ ∀ j, j ≠ 4 → fa j = 0) : JJ p l e room_1 s m #[Value.ref b] below meth c (lw_Z below #[Value.ref b] s) 4 D vwCl (fun q => s.heap.size ≤ q) (va_S (fun q => s.heap.size ≤ q) s.heap) 194 18023 [(h0, .inr (10, [.int 0, .long 0, .long 1, .ref t0, .ref a2, .ref s0, .ref a4, .int 0, .ref a5, .ref a6, .ref a7, .ref a8, .ref a9, .ref a10, .int 0])), (s0, .inr (4, [.int 0, .int 0, .int 0, .int 0, .ref s1, .ref s2, .ref s3])), (s3, .inr (9, [.int (-1), .int 0, .int 0, .int 0, .int 0, .ref m1, .ref m2, .ref m3])), (m0, .inr (11, [.ref b1, .ref b2, .int 0, .long 0, .long 1, .ref b3, .ref b4, .ref b5, .ref b6, .ref b7, .int 0, .int 0, .int 0, .int 0, .int 0, .int 0, .int (-1), .int (-1), .int 0, .int 0, .ref w0, .ref w1, .ref w2, .ref w3, .ref w4, .ref w5, .ref w6, .ref w7, .ref w8, .ref w9, .int 0, .int 0, .int 0, .ref w10, .ref w11, .int 0, .ref w12, .ref w13, .ref w14, .ref w15, .ref w16, .ref w17, .ref w18, .ref w19, .ref w20, .int 0, .ref w21, .ref w22, .int 0, .int 0, .int 0])), (b1, .inl (k.2.1, 1360, .inl fa))] 2014 [(3, .int 0), (2, .ref m0), (1, .ref h0), (0, .ref b)] [] := by
  obtain ⟨hx, hb, hr, hml, hown, hts, hX, hbl, hlocks, hgv⟩ := id C0
  have hA : ∀ q : Nat, s.heap.size ≤ q → (fun q : Nat => s.heap.size ≤ q) q := fun _ h => h
  have hbA : ¬ (fun q : Nat => s.heap.size ≤ q) b := Nat.not_le.mpr hbl
  refine jy_aload_n (pc' := 2015) F 2 dL_law_2014 rfl rfl rfl ?_
  refine jy_calli (pc' := 2018) (cells' := 194) (slots' := 18023) (wr := [(m0, .inr (11, [.ref b1, .ref b2, .int 0, .long 0, .long 1, .ref b3, .ref b4, .ref b5, .ref b6, .ref b7, .int 0, .int 0, .int 0, .int 0, .int 0, .int 0, .int (-1), .int (-1), .int 0, .int 0, .ref w0, .ref w1, .ref w2, .ref w3, .ref w4, .ref w5, .ref w6, .ref w7, .ref w8, .ref w9, .int 0, .int 0, .int 0, .ref w10, .ref w11, .int 0, .ref w12, .ref w13, .ref w14, .ref w15, .ref w16, .ref w17, .ref w18, .ref w19, .ref w20, .int 0, .ref w21, .ref w22, .int 0, .int 0, .int 0])), (b1, .inl (k.2.1, 1360, .inl fa))]) hA [0, 1, 2] [3, 4] rfl rfl (by decide) (by decide) (jy_runV (As := []) (b := h0) (q0 := 0) (ci := 10) (C := RX11) (T := TX11) (N := 15) (st := []) F hN (fun sz => c_X11_doomed l D k h0 a2 a4 a5 a6 a7 a8 a9 a10 t0 s0 s1 s2 s3 m1 m2 m3 sz ) (jy_cV F gl_c_X11_doomed rfl hdX11_doomed (lm_171) (lm_1562) (lm_1563) (lm_1564) rfl rfl ⟨by decide, by decide⟩) rfl rfl [0, 1, 2] rfl (by decide) rfl rfl (Nat.le_of_ble_eq_true rfl) dL_law_2015 ⟨by decide, by decide⟩) rfl rfl rfl (fun r_3 u_1 e_2 => ?_)
  subst e_2
  refine jy_aload_n (pc' := 2019) F 1 dL_law_2018 rfl rfl rfl ?_
  refine jy_calli (pc' := 2022) (cells' := 194) (slots' := 18023) (wr := []) hA [0, 1] [] rfl rfl (by decide) (by decide) (jy_runV (As := []) (b := m0) (q0 := 0) (ci := 11) (C := RX12) (T := TX12) (N := 51) (st := [.int (-1)]) F hN (fun sz => c_X12_doomed l D k m0 b1 b2 b3 b4 b5 b6 b7 w0 w1 w2 w3 w4 w5 w6 w7 w8 w9 w10 w11 w12 w13 w14 w15 w16 w17 w18 w19 w20 w21 w22 fa sz (ha)) (jy_cV F gl_c_X12_doomed rfl hdX12_doomed (lm_185) (lm_2344) (lm_2345) (lm_2346) rfl rfl ⟨by decide, by decide⟩) rfl rfl [0, 1] rfl (by decide) rfl rfl (Nat.le_of_ble_eq_true rfl) dL_law_2019 ⟨by decide, by decide⟩) rfl rfl rfl (fun r_6 u_4 e_5 => ?_)
  subst e_5
  refine jy_icmp_eq (pc' := 2025) (tgt := 2053) F dL_law_2022 (by decide) rfl (fun _ => ?_) (fun h => absurd h (by decide))
  refine jy_iinc (pc' := 2056) (v := 6) (lv' := [(3, .int 6), (2, .ref m0), (1, .ref h0), (0, .ref b)]) F 0 dL_law_2053 rfl (by decide) (by decide) rfl rfl ?_
  refine jy_goto (tgt := 18) F dL_law_2056 (by decide) ?_
  refine jy_iload_n (pc' := 19) F 0 dL_law_18 rfl rfl rfl ?_
  refine jy_aload_n (pc' := 20) F 3 dL_law_19 rfl rfl rfl ?_
  refine jy_slen (pc' := 21) (v := 6) F hX hbl hbA dL_law_20 rfl rfl ?_
  refine jy_bipush (pc' := 23) (v := 6) F dL_law_21 (by decide) rfl ?_
  refine jy_isub (pc' := 24) (v := 0) F dL_law_23 (by decide) rfl ?_
  refine jy_icmp_gt (pc' := 27) (tgt := 2059) F dL_law_24 (by decide) rfl (fun _ => ?_) (fun h => absurd h (by decide))
  refine jy_iconst (pc' := 2060) (v := 1) F dL_law_2059 (by decide) rfl ?_
  exact jy_lawret F hr hlocks (by decide) (by decide) dL_law_2060
set_option maxHeartbeats 4000000 in
set_option maxRecDepth 100000 in
theorem lc_mark {p : Program} {e : Env} {s : State} {m : MethodId} {below : List Frame} {meth : Method} {c : Code} (l : Launch) {b : Nat} {sq : Nat → Int32} (C0 : lw_At p s m meth c b 6 sq) (D : va_G) (k : jK) (F : jy_F p m c code 4 s #[Value.ref b] lw_tbl R_law D vwCl (jT k)) (hN : jy_N jW s) (h0 : Nat) (a2 : Nat) (a4 : Nat) (a5 : Nat) (a6 : Nat) (a7 : Nat) (a8 : Nat) (a9 : Nat) (a10 : Nat) (t0 : Nat) (fk : Nat → Option Nat) (xs : Nat) (xa : Nat) (xa1 : Nat) (xa2 : Nat) (xa3 : Nat) (xa4 : Nat) (xa5 : Nat) (xa6 : Nat) (xb : Nat) (xb1 : Nat) (xb2 : Nat) (xb3 : Nat) (xb4 : Nat) (xb5 : Nat) (xb6 : Nat) (xw : Nat) (xw1 : Nat) (xw2 : Nat) (xw3 : Nat) (xaf1 : Nat → Int32) (xaf2 : Nat → Int32) (xaf3 : Nat → Int32) (xaf4 : Nat → Int32) (xaf5 : Nat → Int32) (xaf6 : Nat → Int32) (xbf1 : Nat → Int32) (xbf2 : Nat → Int32) (xbf3 : Nat → Int32) (xbf4 : Nat → Int32) (xbf5 : Nat → Int32) (xbf6 : Nat → Int32) (xwf1 : Nat → Int32) (xwf2 : Nat → Int32) (xwf3 : Nat → Int32) (ys : Nat) (ya : Nat) (ya1 : Nat) (ya2 : Nat) (ya3 : Nat) (ya4 : Nat) (ya5 : Nat) (ya6 : Nat) (yb : Nat) (yb1 : Nat) (yb2 : Nat) (yb3 : Nat) (yb4 : Nat) (yb5 : Nat) (yb6 : Nat) (yw : Nat) (yw1 : Nat) (yw2 : Nat) (yw3 : Nat) (yaf1 : Nat → Int32) (yaf2 : Nat → Int32) (yaf3 : Nat → Int32) (yaf4 : Nat → Int32) (yaf5 : Nat → Int32) (yaf6 : Nat → Int32) (ybf1 : Nat → Int32) (ybf2 : Nat → Int32) (ybf3 : Nat → Int32) (ybf4 : Nat → Int32) (ybf5 : Nat → Int32) (ybf6 : Nat → Int32) (ywf1 : Nat → Int32) (ywf2 : Nat → Int32) (ywf3 : Nat → Int32) (m0 : Nat) (b1 : Nat) (b2 : Nat) (b3 : Nat) (b4 : Nat) (b5 : Nat) (b6 : Nat) (b7 : Nat) (w0 : Nat) (w1 : Nat) (w2 : Nat) (w3 : Nat) (w4 : Nat) (w5 : Nat) (w6 : Nat) (w7 : Nat) (w8 : Nat) (w9 : Nat) (w10 : Nat) (w11 : Nat) (w12 : Nat) (w13 : Nat) (w14 : Nat) (w15 : Nat) (w16 : Nat) (w17 : Nat) (w18 : Nat) (w19 : Nat) (w20 : Nat) (w21 : Nat) (w22 : Nat) (fa : Nat → Int32) (fn : Nat → Int64) (hk : fk 0 = some xs) (ha : fa 4 = -1 ∧ ∀ j, j ≠ 4 → fa j = 0) : JJ p l e room_1 s m #[Value.ref b] below meth c (lw_Z below #[Value.ref b] s) 4 D vwCl (fun q => s.heap.size ≤ q) (va_S (fun q => s.heap.size ≤ q) s.heap) 194 18023 [(h0, .inr (10, [.int 0, .long 0, .long 1, .ref t0, .ref a2, .ref ys, .ref a4, .int 0, .ref a5, .ref a6, .ref a7, .ref a8, .ref a9, .ref a10, .int 0])), (a4, .inl (k.2.2.2, 3, .inr (.inr (.inr (.inr fk))))), (xs, .inr (4, [.int 0, .int 0, .int 0, .int 0, .ref xa, .ref xb, .ref xw])), (xa, .inr (0, [.int 0, .int 0, .int 0, .int 0, .int 0, .int 0, .ref xa1, .ref xa2, .ref xa3, .ref xa4, .ref xa5, .ref xa6])), (xa1, .inl (k.2.1, 20, .inl xaf1)), (xa2, .inl (k.2.1, 20, .inl xaf2)), (xa3, .inl (k.2.1, 20, .inl xaf3)), (xa4, .inl (k.2.1, 20, .inl xaf4)), (xa5, .inl (k.2.1, 6, .inl xaf5)), (xa6, .inl (k.2.1, 18, .inl xaf6)), (xb, .inr (0, [.int 0, .int 0, .int 0, .int 0, .int 0, .int 0, .ref xb1, .ref xb2, .ref xb3, .ref xb4, .ref xb5, .ref xb6])), (xb1, .inl (k.2.1, 20, .inl xbf1)), (xb2, .inl (k.2.1, 20, .inl xbf2)), (xb3, .inl (k.2.1, 20, .inl xbf3)), (xb4, .inl (k.2.1, 20, .inl xbf4)), (xb5, .inl (k.2.1, 6, .inl xbf5)), (xb6, .inl (k.2.1, 18, .inl xbf6)), (xw, .inr (9, [.int (-1), .int 0, .int 0, .int 0, .int 0, .ref xw1, .ref xw2, .ref xw3])), (xw1, .inl (k.2.1, 30, .inl xwf1)), (xw2, .inl (k.2.1, 30, .inl xwf2)), (xw3, .inl (k.2.1, 30, .inl xwf3)), (ys, .inr (4, [.int 0, .int 0, .int 0, .int 0, .ref ya, .ref yb, .ref yw])), (ya, .inr (0, [.int 0, .int 0, .int 0, .int 0, .int 0, .int 0, .ref ya1, .ref ya2, .ref ya3, .ref ya4, .ref ya5, .ref ya6])), (ya1, .inl (k.2.1, 20, .inl yaf1)), (ya2, .inl (k.2.1, 20, .inl yaf2)), (ya3, .inl (k.2.1, 20, .inl yaf3)), (ya4, .inl (k.2.1, 20, .inl yaf4)), (ya5, .inl (k.2.1, 6, .inl yaf5)), (ya6, .inl (k.2.1, 18, .inl yaf6)), (yb, .inr (0, [.int 0, .int 0, .int 0, .int 0, .int 0, .int 0, .ref yb1, .ref yb2, .ref yb3, .ref yb4, .ref yb5, .ref yb6])), (yb1, .inl (k.2.1, 20, .inl ybf1)), (yb2, .inl (k.2.1, 20, .inl ybf2)), (yb3, .inl (k.2.1, 20, .inl ybf3)), (yb4, .inl (k.2.1, 20, .inl ybf4)), (yb5, .inl (k.2.1, 6, .inl ybf5)), (yb6, .inl (k.2.1, 18, .inl ybf6)), (yw, .inr (9, [.int (-1), .int 0, .int 0, .int 0, .int 0, .ref yw1, .ref yw2, .ref yw3])), (yw1, .inl (k.2.1, 30, .inl ywf1)), (yw2, .inl (k.2.1, 30, .inl ywf2)), (yw3, .inl (k.2.1, 30, .inl ywf3)), (m0, .inr (11, [.ref b1, .ref b2, .int 0, .long 0, .long 1, .ref b3, .ref b4, .ref b5, .ref b6, .ref b7, .int 0, .int 0, .int 0, .int 0, .int 0, .int 0, .int (-1), .int (-1), .int 0, .int 0, .ref w0, .ref w1, .ref w2, .ref w3, .ref w4, .ref w5, .ref w6, .ref w7, .ref w8, .ref w9, .int 0, .int 0, .int 0, .ref w10, .ref w11, .int 0, .ref w12, .ref w13, .ref w14, .ref w15, .ref w16, .ref w17, .ref w18, .ref w19, .ref w20, .int 0, .ref w21, .ref w22, .int 0, .int 0, .int 0])), (b1, .inl (k.2.1, 1360, .inl fa)), (b2, .inl (k.2.2.1, 36, .inr (.inl fn)))] 2027 [(3, .int 0), (2, .ref m0), (1, .ref h0), (0, .ref b)] [] := by
  obtain ⟨hx, hb, hr, hml, hown, hts, hX, hbl, hlocks, hgv⟩ := id C0
  have hA : ∀ q : Nat, s.heap.size ≤ q → (fun q : Nat => s.heap.size ≤ q) q := fun _ h => h
  have hbA : ¬ (fun q : Nat => s.heap.size ≤ q) b := Nat.not_le.mpr hbl
  refine jy_aload_n (pc' := 2028) F 2 dL_law_2027 rfl rfl rfl ?_
  refine jy_calli (pc' := 2031) (cells' := 194) (slots' := 18023) (wr := [(m0, .inr (11, [.ref b1, .ref b2, .int 0, .long 0, .long 1, .ref b3, .ref b4, .ref b5, .ref b6, .ref b7, .int 0, .int 0, .int 0, .int 0, .int 0, .int 0, .int (-1), .int (-1), .int 0, .int 0, .ref w0, .ref w1, .ref w2, .ref w3, .ref w4, .ref w5, .ref w6, .ref w7, .ref w8, .ref w9, .int 0, .int 0, .int 0, .ref w10, .ref w11, .int 0, .ref w12, .ref w13, .ref w14, .ref w15, .ref w16, .ref w17, .ref w18, .ref w19, .ref w20, .int 0, .ref w21, .ref w22, .int 0, .int 0, .int 0])), (b1, .inl (k.2.1, 1360, .inl fa)), (b2, .inl (k.2.2.1, 36, .inr (.inl fn)))]) hA [0, 1, 2, 3, 4, 5, 6, 7, 8, 9, 10, 11, 12, 13, 14, 15, 16, 17, 18, 19, 20, 21, 22, 23, 24, 25, 26, 27, 28, 29, 30, 31, 32, 33, 34, 35, 36, 37, 38, 39] [40, 41, 42] rfl rfl (by decide) (by decide) (jy_runV (As := []) (b := h0) (q0 := 0) (ci := 10) (C := RX11) (T := TX11) (N := 15) (st := []) F hN (fun sz => c_X11_mark l D k h0 a2 a4 a5 a6 a7 a8 a9 a10 t0 fk xs xa xa1 xa2 xa3 xa4 xa5 xa6 xb xb1 xb2 xb3 xb4 xb5 xb6 xw xw1 xw2 xw3 xaf1 xaf2 xaf3 xaf4 xaf5 xaf6 xbf1 xbf2 xbf3 xbf4 xbf5 xbf6 xwf1 xwf2 xwf3 ys ya ya1 ya2 ya3 ya4 ya5 ya6 yb yb1 yb2 yb3 yb4 yb5 yb6 yw yw1 yw2 yw3 yaf1 yaf2 yaf3 yaf4 yaf5 yaf6 ybf1 ybf2 ybf3 ybf4 ybf5 ybf6 ywf1 ywf2 ywf3 sz (hk)) (jy_cV F gl_c_X11_mark rfl hdX11_mark (lm_171) (lm_1573) (lm_1574) (lm_1575) rfl rfl ⟨by decide, by decide⟩) rfl rfl [0, 1, 2, 3, 4, 5, 6, 7, 8, 9, 10, 11, 12, 13, 14, 15, 16, 17, 18, 19, 20, 21, 22, 23, 24, 25, 26, 27, 28, 29, 30, 31, 32, 33, 34, 35, 36, 37, 38, 39] rfl (by decide) rfl rfl (Nat.le_of_ble_eq_true rfl) dL_law_2028 ⟨by decide, by decide⟩) rfl rfl rfl (fun r_3 u_1 e_2 => ?_)
  subst e_2
  refine jy_aload_n (pc' := 2032) F 1 dL_law_2031 rfl rfl rfl ?_
  refine jy_calli (pc' := 2035) (cells' := 194) (slots' := 18023) (wr := []) hA [0, 1, 2] [] rfl rfl (by decide) (by decide) (jy_runV (As := []) (b := m0) (q0 := 0) (ci := 11) (C := RX12) (T := TX12) (N := 51) (st := [.int 1]) F hN (fun sz => c_X12_mark l D k m0 b1 b2 b3 b4 b5 b6 b7 w0 w1 w2 w3 w4 w5 w6 w7 w8 w9 w10 w11 w12 w13 w14 w15 w16 w17 w18 w19 w20 w21 w22 fa fn sz (ha)) (jy_cV F gl_c_X12_mark rfl hdX12_mark (lm_185) (lm_2352) (lm_2353) (lm_2354) rfl rfl ⟨by decide, by decide⟩) rfl rfl [0, 1, 2] rfl (by decide) rfl rfl (Nat.le_of_ble_eq_true rfl) dL_law_2032 ⟨by decide, by decide⟩) rfl rfl rfl (fun r_6 u_4 e_5 => ?_)
  subst e_5
  refine jy_icmp_eq (pc' := 2038) (tgt := 2053) F dL_law_2035 (by decide) rfl (fun _ => ?_) (fun h => absurd h (by decide))
  refine jy_iinc (pc' := 2056) (v := 6) (lv' := [(3, .int 6), (2, .ref m0), (1, .ref h0), (0, .ref b)]) F 0 dL_law_2053 rfl (by decide) (by decide) rfl rfl ?_
  refine jy_goto (tgt := 18) F dL_law_2056 (by decide) ?_
  refine jy_iload_n (pc' := 19) F 0 dL_law_18 rfl rfl rfl ?_
  refine jy_aload_n (pc' := 20) F 3 dL_law_19 rfl rfl rfl ?_
  refine jy_slen (pc' := 21) (v := 6) F hX hbl hbA dL_law_20 rfl rfl ?_
  refine jy_bipush (pc' := 23) (v := 6) F dL_law_21 (by decide) rfl ?_
  refine jy_isub (pc' := 24) (v := 0) F dL_law_23 (by decide) rfl ?_
  refine jy_icmp_gt (pc' := 27) (tgt := 2059) F dL_law_24 (by decide) rfl (fun _ => ?_) (fun h => absurd h (by decide))
  refine jy_iconst (pc' := 2060) (v := 1) F dL_law_2059 (by decide) rfl ?_
  exact jy_lawret F hr hlocks (by decide) (by decide) dL_law_2060
set_option maxHeartbeats 4000000 in
set_option maxRecDepth 100000 in
theorem lc_undo {p : Program} {e : Env} {s : State} {m : MethodId} {below : List Frame} {meth : Method} {c : Code} (l : Launch) {b : Nat} {sq : Nat → Int32} (C0 : lw_At p s m meth c b 6 sq) (D : va_G) (k : jK) (F : jy_F p m c code 4 s #[Value.ref b] lw_tbl R_law D vwCl (jT k)) (hN : jy_N jW s) (h0 : Nat) (a2 : Nat) (a4 : Nat) (a5 : Nat) (a6 : Nat) (a7 : Nat) (a8 : Nat) (a9 : Nat) (a10 : Nat) (t0 : Nat) (s0 : Nat) (m0 : Nat) (b1 : Nat) (b2 : Nat) (b3 : Nat) (b4 : Nat) (b5 : Nat) (b6 : Nat) (b7 : Nat) (w0 : Nat) (w1 : Nat) (w2 : Nat) (w3 : Nat) (w4 : Nat) (w5 : Nat) (w6 : Nat) (w7 : Nat) (w8 : Nat) (w9 : Nat) (w10 : Nat) (w11 : Nat) (w12 : Nat) (w13 : Nat) (w14 : Nat) (w15 : Nat) (w16 : Nat) (w17 : Nat) (w18 : Nat) (w19 : Nat) (w20 : Nat) (w21 : Nat) (w22 : Nat)  : JJ p l e room_1 s m #[Value.ref b] below meth c (lw_Z below #[Value.ref b] s) 4 D vwCl (fun q => s.heap.size ≤ q) (va_S (fun q => s.heap.size ≤ q) s.heap) 194 18023 [(h0, .inr (10, [.int 0, .long 0, .long 1, .ref t0, .ref a2, .ref s0, .ref a4, .int 0, .ref a5, .ref a6, .ref a7, .ref a8, .ref a9, .ref a10, .int 0])), (m0, .inr (11, [.ref b1, .ref b2, .int 0, .long 0, .long 1, .ref b3, .ref b4, .ref b5, .ref b6, .ref b7, .int 0, .int 0, .int 0, .int 0, .int 0, .int 0, .int (-1), .int (-1), .int 0, .int 0, .ref w0, .ref w1, .ref w2, .ref w3, .ref w4, .ref w5, .ref w6, .ref w7, .ref w8, .ref w9, .int 0, .int 0, .int 0, .ref w10, .ref w11, .int 0, .ref w12, .ref w13, .ref w14, .ref w15, .ref w16, .ref w17, .ref w18, .ref w19, .ref w20, .int 0, .ref w21, .ref w22, .int 0, .int 0, .int 0]))] 2040 [(3, .int 0), (2, .ref m0), (1, .ref h0), (0, .ref b)] [] := by
  obtain ⟨hx, hb, hr, hml, hown, hts, hX, hbl, hlocks, hgv⟩ := id C0
  have hA : ∀ q : Nat, s.heap.size ≤ q → (fun q : Nat => s.heap.size ≤ q) q := fun _ h => h
  have hbA : ¬ (fun q : Nat => s.heap.size ≤ q) b := Nat.not_le.mpr hbl
  refine jy_aload_n (pc' := 2041) F 2 dL_law_2040 rfl rfl rfl ?_
  refine jy_calli (pc' := 2044) (cells' := 194) (slots' := 18023) (wr := [(m0, .inr (11, [.ref b1, .ref b2, .int 0, .long 0, .long 1, .ref b3, .ref b4, .ref b5, .ref b6, .ref b7, .int 0, .int 0, .int 0, .int 0, .int 0, .int 0, .int (-1), .int (-1), .int 0, .int 0, .ref w0, .ref w1, .ref w2, .ref w3, .ref w4, .ref w5, .ref w6, .ref w7, .ref w8, .ref w9, .int 0, .int 0, .int 0, .ref w10, .ref w11, .int 0, .ref w12, .ref w13, .ref w14, .ref w15, .ref w16, .ref w17, .ref w18, .ref w19, .ref w20, .int 0, .ref w21, .ref w22, .int 0, .int 0, .int 0]))]) hA [0] [1] rfl rfl (by decide) (by decide) (jy_runV (As := []) (b := h0) (q0 := 0) (ci := 10) (C := RX11) (T := TX11) (N := 15) (st := []) F hN (fun sz => c_X11_undo l D k h0 a2 a4 a5 a6 a7 a8 a9 a10 t0 s0 sz ) (jy_cV F gl_c_X11_undo rfl hdX11_undo (lm_171) (lm_1587) (lm_1588) (lm_1589) rfl rfl ⟨by decide, by decide⟩) rfl rfl [0] rfl (by decide) rfl rfl (Nat.le_of_ble_eq_true rfl) dL_law_2041 ⟨by decide, by decide⟩) rfl rfl rfl (fun r_3 u_1 e_2 => ?_)
  subst e_2
  refine jy_aload_n (pc' := 2045) F 1 dL_law_2044 rfl rfl rfl ?_
  refine jy_calli (pc' := 2048) (cells' := 194) (slots' := 18023) (wr := []) hA [0] [] rfl rfl (by decide) (by decide) (jy_runV (As := []) (b := m0) (q0 := 0) (ci := 11) (C := RX12) (T := TX12) (N := 51) (st := [.int (-1)]) F hN (fun sz => c_X12_undo l D k m0 b1 b2 b3 b4 b5 b6 b7 w0 w1 w2 w3 w4 w5 w6 w7 w8 w9 w10 w11 w12 w13 w14 w15 w16 w17 w18 w19 w20 w21 w22 sz ) (jy_cV F gl_c_X12_undo rfl hdX12_undo (lm_185) (lm_2360) (lm_2361) (lm_2362) rfl rfl ⟨by decide, by decide⟩) rfl rfl [0] rfl (by decide) rfl rfl (Nat.le_of_ble_eq_true rfl) dL_law_2045 ⟨by decide, by decide⟩) rfl rfl rfl (fun r_6 u_4 e_5 => ?_)
  subst e_5
  refine jy_icmp_eq (pc' := 2051) (tgt := 2053) F dL_law_2048 (by decide) rfl (fun _ => ?_) (fun h => absurd h (by decide))
  refine jy_iinc (pc' := 2056) (v := 6) (lv' := [(3, .int 6), (2, .ref m0), (1, .ref h0), (0, .ref b)]) F 0 dL_law_2053 rfl (by decide) (by decide) rfl rfl ?_
  refine jy_goto (tgt := 18) F dL_law_2056 (by decide) ?_
  refine jy_iload_n (pc' := 19) F 0 dL_law_18 rfl rfl rfl ?_
  refine jy_aload_n (pc' := 20) F 3 dL_law_19 rfl rfl rfl ?_
  refine jy_slen (pc' := 21) (v := 6) F hX hbl hbA dL_law_20 rfl rfl ?_
  refine jy_bipush (pc' := 23) (v := 6) F dL_law_21 (by decide) rfl ?_
  refine jy_isub (pc' := 24) (v := 0) F dL_law_23 (by decide) rfl ?_
  refine jy_icmp_gt (pc' := 27) (tgt := 2059) F dL_law_24 (by decide) rfl (fun _ => ?_) (fun h => absurd h (by decide))
  refine jy_iconst (pc' := 2060) (v := 1) F dL_law_2059 (by decide) rfl ?_
  exact jy_lawret F hr hlocks (by decide) (by decide) dL_law_2060
