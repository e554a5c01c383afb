def ws_c_X5_has : List Cond := .code yX5_has cX5_has 2 (some .boolean) :: ([.fieldLink "NestedChecker$Setting" 38 "NestedChecker$Setting" "automata" "I"] ++ wsX50)
set_option maxHeartbeats 4000000 in
set_option maxRecDepth 100000 in
theorem c_X5_has (l : Launch) (D : va_G) (k : jK) (s0 : Nat) (s1 : Nat) (s2 : Nat) (s3 : Nat) (y : Int32) (sz : Nat)  : Met l yX5_has ws_c_X5_has ({ frames := 0, cells := 0, slots := 0, locals := 0 }) (jy_P [.ref s0, .int y] D vwCl (jT k) jW [(s0, .inr (4, [.int 0, .int 0, .int 0, .int 0, .ref s1, .ref s2, .ref s3]))] sz) (vp_Si (fun (r : Int32) => r = 0)) 0 0 (fun _ => False) := by
  refine jy_metS (cc := cX5_has) (maxL := 2) (ret := (some .boolean)) (lv := [(0, .ref s0), (1, .int y)]) (by decide) rfl (Nat.le_of_ble_eq_true rfl) rfl ?_
  intro p e s m below meth c F hr hlk hN
  have hiX5 : ∀ w ∈ u_ws RX5 TX5 7, w ∈ ws_c_X5_has := fun w hw => List.mem_cons_of_mem _ (List.mem_append_right _ hw)
  refine jy_iload_n (pc' := 1) F 1 dX5_has_0 rfl rfl rfl ?_
  refine jy_if_lt (pc' := 4) (tgt := 16) F dX5_has_1 (by decide) rfl (fun h1 => ?_) (fun h1 => ?_)
  · refine jy_iconst (pc' := 17) (v := 0) F dX5_has_16 (by decide) rfl ?_
    exact jy_zretS (v := 0) F hr hlk (by first | rfl | decide) (rfl) dX5_has_17
  · refine jy_iload_n (pc' := 5) F 1 dX5_has_4 rfl rfl rfl ?_
    refine jy_aload_n (pc' := 6) F 0 dX5_has_5 rfl rfl rfl ?_
    refine jy_get (pc' := 9) (C := RX5) (T := TX5) (N := 7) (ci := 4) (v := .int 0) F hiX5 0 rfl rfl 3 (by decide) dX5_has_6 (List.mem_of_getElem? (i := 1) rfl) rfl rfl ?_
    refine jy_icmp_ge (pc' := 12) (tgt := 16) F dX5_has_9 (by decide) rfl (fun _ => ?_) (fun h => absurd (Int32.not_lt.mp h1) h)
    refine jy_iconst (pc' := 17) (v := 0) F dX5_has_16 (by decide) rfl ?_
    exact jy_zretS (v := 0) F hr hlk (by first | rfl | decide) (rfl) dX5_has_17
def ws_c_X5_hasLetter : List Cond := .code yX5_hasLetter cX5_hasLetter 2 (some .boolean) :: ([.fieldLink "NestedChecker$Setting" 35 "NestedChecker$Setting" "letters" "I"] ++ wsX50)
set_option maxHeartbeats 4000000 in
set_option maxRecDepth 100000 in
theorem c_X5_hasLetter (l : Launch) (D : va_G) (k : jK) (s0 : Nat) (s1 : Nat) (s2 : Nat) (s3 : Nat) (y : Int32) (sz : Nat)  : Met l yX5_hasLetter ws_c_X5_hasLetter ({ frames := 0, cells := 0, slots := 0, locals := 0 }) (jy_P [.ref s0, .int y] D vwCl (jT k) jW [(s0, .inr (4, [.int 0, .int 0, .int 0, .int 0, .ref s1, .ref s2, .ref s3]))] sz) (vp_Si (fun (r : Int32) => r = 0)) 0 0 (fun _ => False) := by
  refine jy_metS (cc := cX5_hasLetter) (maxL := 2) (ret := (some .boolean)) (lv := [(0, .ref s0), (1, .int y)]) (by decide) rfl (Nat.le_of_ble_eq_true rfl) rfl ?_
  intro p e s m below meth c F hr hlk hN
  have hiX5 : ∀ w ∈ u_ws RX5 TX5 7, w ∈ ws_c_X5_hasLetter := fun w hw => List.mem_cons_of_mem _ (List.mem_append_right _ hw)
  refine jy_iload_n (pc' := 1) F 1 dX5_hasLetter_0 rfl rfl rfl ?_
  refine jy_if_lt (pc' := 4) (tgt := 16) F dX5_hasLetter_1 (by decide) rfl (fun h1 => ?_) (fun h1 => ?_)
  · refine jy_iconst (pc' := 17) (v := 0) F dX5_hasLetter_16 (by decide) rfl ?_
    exact jy_zretS (v := 0) F hr hlk (by first | rfl | decide) (rfl) dX5_hasLetter_17
  · refine jy_iload_n (pc' := 5) F 1 dX5_hasLetter_4 rfl rfl rfl ?_
    refine jy_aload_n (pc' := 6) F 0 dX5_hasLetter_5 rfl rfl rfl ?_
    refine jy_get (pc' := 9) (C := RX5) (T := TX5) (N := 7) (ci := 4) (v := .int 0) F hiX5 0 rfl rfl 2 (by decide) dX5_hasLetter_6 (List.mem_of_getElem? (i := 1) rfl) rfl rfl ?_
    refine jy_icmp_ge (pc' := 12) (tgt := 16) F dX5_hasLetter_9 (by decide) rfl (fun _ => ?_) (fun h => absurd (Int32.not_lt.mp h1) h)
    refine jy_iconst (pc' := 17) (v := 0) F dX5_hasLetter_16 (by decide) rfl ?_
    exact jy_zretS (v := 0) F hr hlk (by first | rfl | decide) (rfl) dX5_hasLetter_17
def ws_c_X5_sortOf : List Cond := .code yX5_sortOf cX5_sortOf 2 (some .int) :: ([.code ⟨"NestedChecker$Setting", "hasLetter", "(I)Z"⟩ cX5_hasLetter 2 (some .boolean), .fieldLink "NestedChecker$Setting" 35 "NestedChecker$Setting" "letters" "I", .initialized "NestedChecker$Setting", .instanceMethod ⟨"NestedChecker$Setting", "hasLetter", "(I)Z"⟩, .selects "NestedChecker$Setting" ⟨"NestedChecker$Setting", "hasLetter", "(I)Z"⟩ ⟨"NestedChecker$Setting", "hasLetter", "(I)Z"⟩, .methodLink "NestedChecker$Setting" 51 ⟨"NestedChecker$Setting", "hasLetter", "(I)Z"⟩] ++ wsX50)
set_option maxRecDepth 20000 in
theorem g_c_X5_sortOf_c_X5_hasLetter : GoodIn ws_c_X5_sortOf ws_c_X5_hasLetter := goodIn_r _ [1, 2, 7, 8, 9, 10, 11, 12, 13] (by decide +kernel) (by decide +kernel)
set_option maxHeartbeats 4000000 in
set_option maxRecDepth 100000 in
theorem c_X5_sortOf (l : Launch) (D : va_G) (k : jK) (s0 : Nat) (s1 : Nat) (s2 : Nat) (s3 : Nat) (y : Int32) (sz : Nat)  : Met l yX5_sortOf ws_c_X5_sortOf ({ frames := 1, cells := 0, slots := 0, locals := 21 }) (jy_P [.ref s0, .int y] D vwCl (jT k) jW [(s0, .inr (4, [.int 0, .int 0, .int 0, .int 0, .ref s1, .ref s2, .ref s3]))] sz) (vp_Si (fun (r : Int32) => r = -1)) 0 0 (fun _ => False) := by
  refine jy_metS (cc := cX5_sortOf) (maxL := 2) (ret := (some .int)) (lv := [(0, .ref s0), (1, .int y)]) (by decide) rfl (Nat.le_of_ble_eq_true rfl) rfl ?_
  intro p e s m below meth c F hr hlk hN
  have hiX5 : ∀ w ∈ u_ws RX5 TX5 7, w ∈ ws_c_X5_sortOf := fun w hw => List.mem_cons_of_mem _ (List.mem_append_right _ hw)
  refine jy_aload_n (pc' := 1) F 0 dX5_sortOf_0 rfl rfl rfl ?_
  refine jy_iload_n (pc' := 2) F 1 dX5_sortOf_1 rfl rfl rfl ?_
  refine jy_callSi (pc' := 5) (jy_runV (As := [.int y]) (b := s0) (q0 := 0) (ci := 4) (C := RX5) (T := TX5) (N := 7) (st := []) F hN (fun sz => c_X5_hasLetter l D k s0 s1 s2 s3 y sz ) (jy_cV F g_c_X5_sortOf_c_X5_hasLetter rfl hdX5_hasLetter (List.mem_of_getElem? (i := 3) rfl) (List.mem_of_getElem? (i := 6) rfl) (List.mem_of_getElem? (i := 4) rfl) (List.mem_of_getElem? (i := 5) rfl) rfl rfl ⟨by decide, by decide⟩) rfl rfl [0] rfl (by decide) rfl rfl (Nat.le_of_ble_eq_true rfl) dX5_sortOf_2 ⟨by decide, by decide⟩) rfl (fun r1 e2 => ?_)
  subst e2
  refine jy_if_ne (pc' := 8) (tgt := 10) F dX5_sortOf_5 (by decide) rfl (fun h => absurd h (by decide)) (fun _ => ?_)
  refine jy_iconst (pc' := 9) (v := (-1)) F dX5_sortOf_8 (by decide) rfl ?_
  exact jy_iretS (v := (-1)) F hr hlk (rfl) dX5_sortOf_9
