theorem BT.num {M : Mem} {b : Int} {q : Int → Int} (h : BT M q b) : M 164 (b + 1088) = q b ∧ M 164 (b + 1089) = q (b + 1) ∧ M 164 (b + 1090) = q (b + 2) ∧ M 164 (b + 1091) = q (b + 3) ∧ M 164 (b + 1092) = q (b + 4) := ⟨h.1, h.2.1, h.2.2.1, h.2.2.2.1, h.2.2.2.2.1⟩
theorem BT.n {M : Mem} {b y d : Int} {q : Int → Int} (h : BT M q b) (hd : 0 ≤ d ∧ d ≤ 4) (hy : y = b + d + 1088) : M 164 y = q (b + d) := by
  have e : d = 0 ∨ d = 1 ∨ d = 2 ∨ d = 3 ∨ d = 4 := by omega
  have g := h.num
  subst hy
  rcases e with e | e | e | e | e <;> subst e
  · rw [Int.add_zero]; exact g.1
  · rw [show b + 1 + 1088 = b + 1089 by omega]; exact g.2.1
  · rw [show b + 2 + 1088 = b + 1090 by omega]; exact g.2.2.1
  · rw [show b + 3 + 1088 = b + 1091 by omega]; exact g.2.2.2.1
  · rw [show b + 4 + 1088 = b + 1092 by omega]; exact g.2.2.2.2
theorem BT.rul {M : Mem} {b : Int} {q : Int → Int} (h : BT M q b) : ∀ k, 0 ≤ k → k < q (b + 4) → M 164 (b + 4 * k + 1093) = q (b + 5 + 4 * k) ∧ M 164 (b + 4 * k + 1094) = q (b + 6 + 4 * k) ∧ M 164 (b + 4 * k + 1095) = q (b + 7 + 4 * k) ∧ M 164 (b + 4 * k + 1096) = q (b + 8 + 4 * k) := h.2.2.2.2.2
theorem BT.r {M : Mem} {b k y0 y1 y2 y3 : Int} {q : Int → Int} (h : BT M q b) (h0 : 0 ≤ k) (h1 : k < q (b + 4)) (e0 : y0 = b + 4 * k + 1093) (e1 : y1 = b + 4 * k + 1094) (e2 : y2 = b + 4 * k + 1095) (e3 : y3 = b + 4 * k + 1096) : M 164 y0 = q (b + 5 + 4 * k) ∧ M 164 y1 = q (b + 6 + 4 * k) ∧ M 164 y2 = q (b + 7 + 4 * k) ∧ M 164 y3 = q (b + 8 + 4 * k) := by
  subst e0 e1 e2 e3; exact h.rul k h0 h1
theorem BT.fr {L : List (Nat × Int)} {M N : Mem} {b : Int} {q : Int → Int} (h : BT M q b) (hF : Fr L M N) (hL : L.all (fun p => !(p.1 == 65)) = true) : BT N q b := by
  unfold BT; rw [hF.fn kd_164 hL]; exact h
theorem BQ.fr {L : List (Nat × Int)} {M N : Mem} {q : Int → Int} (h : BQ M q) (hF : Fr L M N) (hL : L.all (fun p => !(p.1 == 65)) = true) : BQ N q := by
  unfold BQ; rw [hF.fn kd_164 hL]; exact h
theorem BA.fr {L : List (Nat × Int)} {M N : Mem} {q : Int → Int} (h : BA M q) (hF : Fr L M N) (hL : L.all (fun p => !(p.1 == 65)) = true) : BA N q := ⟨fun a => (h.1 a).fr hF hL, fun a => (h.2 a).fr hF hL⟩
theorem BA.bt {M : Mem} {b : Int} {q : Int → Int} (h : BA M q) (hb : b = 15 + 85 * q 3 ∧ 1 ≤ q 3) (hq : q 3 ≤ 2) : BT M q b := by
  rcases (by omega : (b = 100 ∧ q 3 = 1) ∨ (b = 185 ∧ q 3 = 2)) with ⟨e1, e2⟩ | ⟨e1, e2⟩ <;> subst e1
  · exact h.1 (by omega)
  · exact h.2 (by omega)
theorem BT.low {M N : Mem} {b : Int} {q : Int → Int} (h : BT M q b) (hn : 0 ≤ q (b + 4)) (o : ∀ i, b + 1088 ≤ i → i < b + 1093 + 4 * q (b + 4) → N 164 i = M 164 i) : BT N q b := by
  obtain ⟨a0, a1, a2, a3, a4, a6⟩ := h
  refine ⟨by rw [o _ (by omega) (by omega)]; exact a0, by rw [o _ (by omega) (by omega)]; exact a1, by rw [o _ (by omega) (by omega)]; exact a2, by rw [o _ (by omega) (by omega)]; exact a3, by rw [o _ (by omega) (by omega)]; exact a4, fun k h0 h1 => ?_⟩
  obtain ⟨c1, c2, c3, c4⟩ := a6 k h0 h1
  exact ⟨by rw [o _ (by omega) (by omega)]; exact c1, by rw [o _ (by omega) (by omega)]; exact c2, by rw [o _ (by omega) (by omega)]; exact c3, by rw [o _ (by omega) (by omega)]; exact c4⟩
theorem BT.set {M N : Mem} {b i v : Int} {q : Int → Int} (h : BT M q b) (hi : i = 2 ∨ i = 3) (hv : N 164 (b + i + 1088) = v) (o : ∀ k, k ≠ b + i + 1088 → b + 1088 ≤ k → k < b + 1173 → N 164 k = M 164 k) (hr : q (b + 4) ≤ 20) : BT N (upk q (b + i) v) b := by
  obtain ⟨a0, a1, a2, a3, a4, a6⟩ := h
  have r : ∀ k, 0 ≤ k → k < upk q (b + i) v (b + 4) → N 164 (b + 4 * k + 1093) = upk q (b + i) v (b + 5 + 4 * k) ∧ N 164 (b + 4 * k + 1094) = upk q (b + i) v (b + 6 + 4 * k) ∧ N 164 (b + 4 * k + 1095) = upk q (b + i) v (b + 7 + 4 * k) ∧ N 164 (b + 4 * k + 1096) = upk q (b + i) v (b + 8 + 4 * k) := fun k h0 h1 => by
    rw [upk_o (by omega)] at h1
    obtain ⟨c1, c2, c3, c4⟩ := a6 k h0 h1
    rw [upk_o (by omega), upk_o (by omega), upk_o (by omega), upk_o (by omega), o _ (by omega) (by omega) (by omega), o _ (by omega) (by omega) (by omega), o _ (by omega) (by omega) (by omega), o _ (by omega) (by omega) (by omega)]
    exact ⟨c1, c2, c3, c4⟩
  rcases hi with e | e <;> subst e
  · exact ⟨by rw [upk_o (by omega), o _ (by omega) (by omega) (by omega)]; exact a0, by rw [upk_o (by omega), o _ (by omega) (by omega) (by omega)]; exact a1, by rw [upk_s, show b + 1090 = b + 2 + 1088 by omega]; exact hv, by rw [upk_o (by omega), o _ (by omega) (by omega) (by omega)]; exact a3, by rw [upk_o (by omega), o _ (by omega) (by omega) (by omega)]; exact a4, r⟩
  · exact ⟨by rw [upk_o (by omega), o _ (by omega) (by omega) (by omega)]; exact a0, by rw [upk_o (by omega), o _ (by omega) (by omega) (by omega)]; exact a1, by rw [upk_o (by omega), o _ (by omega) (by omega) (by omega)]; exact a2, by rw [upk_s, show b + 1091 = b + 3 + 1088 by omega]; exact hv, by rw [upk_o (by omega), o _ (by omega) (by omega) (by omega)]; exact a4, r⟩
theorem BT.app {M N : Mem} {b l p r g y4 y5 y6 y7 y8 : Int} {q : Int → Int} (h : BT M q b) (hn : 0 ≤ q (b + 4)) (f4 : y4 = b + 1092) (f5 : y5 = b + 1093 + 4 * q (b + 4)) (f6 : y6 = b + 1094 + 4 * q (b + 4)) (f7 : y7 = b + 1095 + 4 * q (b + 4)) (f8 : y8 = b + 1096 + 4 * q (b + 4)) (h4 : N 164 y4 = q (b + 4) + 1) (h5 : N 164 y5 = l) (h6 : N 164 y6 = p) (h7 : N 164 y7 = r) (h8 : N 164 y8 = g) (o : ∀ i, ¬ i = b + 1092 → (i < b + 1093 + 4 * q (b + 4) ∨ b + 1096 + 4 * q (b + 4) < i) → N 164 i = M 164 i) : BT N (uprul q b l p r g) b := by
  subst f4 f5 f6 f7 f8
  obtain ⟨a0, a1, a2, a3, a4, a6⟩ := h
  have u4 : uprul q b l p r g (b + 4) = q (b + 4) + 1 := by unfold uprul; rw [if_pos rfl]
  have uo : ∀ i, ¬ i = b + 4 → (i < b + 5 + 4 * q (b + 4) ∨ b + 8 + 4 * q (b + 4) < i) → uprul q b l p r g i = q i := fun i c1 c2 => by unfold uprul; rw [if_neg c1, if_neg (by omega), if_neg (by omega), if_neg (by omega), if_neg (by omega)]
  have u5 : uprul q b l p r g (b + 5 + 4 * q (b + 4)) = l := by unfold uprul; rw [if_neg (by omega), if_pos rfl]
  have u6 : uprul q b l p r g (b + 6 + 4 * q (b + 4)) = p := by unfold uprul; rw [if_neg (by omega), if_neg (by omega), if_pos rfl]
  have u7 : uprul q b l p r g (b + 7 + 4 * q (b + 4)) = r := by unfold uprul; rw [if_neg (by omega), if_neg (by omega), if_neg (by omega), if_pos rfl]
  have u8 : uprul q b l p r g (b + 8 + 4 * q (b + 4)) = g := by unfold uprul; rw [if_neg (by omega), if_neg (by omega), if_neg (by omega), if_neg (by omega), if_pos rfl]
  refine ⟨by rw [uo _ (by omega) (by omega), o _ (by omega) (by omega)]; exact a0, by rw [uo _ (by omega) (by omega), o _ (by omega) (by omega)]; exact a1, by rw [uo _ (by omega) (by omega), o _ (by omega) (by omega)]; exact a2, by rw [uo _ (by omega) (by omega), o _ (by omega) (by omega)]; exact a3, by rw [u4]; exact h4, fun k h0 h1 => ?_⟩
  rw [u4] at h1
  by_cases e : k = q (b + 4)
  · subst e
    rw [u5, u6, u7, u8, show b + 4 * q (b + 4) + 1093 = b + 1093 + 4 * q (b + 4) by omega, show b + 4 * q (b + 4) + 1094 = b + 1094 + 4 * q (b + 4) by omega, show b + 4 * q (b + 4) + 1095 = b + 1095 + 4 * q (b + 4) by omega, show b + 4 * q (b + 4) + 1096 = b + 1096 + 4 * q (b + 4) by omega]
    exact ⟨h5, h6, h7, h8⟩
  · obtain ⟨c1, c2, c3, c4⟩ := a6 k h0 (by omega)
    rw [uo _ (by omega) (by omega), uo _ (by omega) (by omega), uo _ (by omega) (by omega), uo _ (by omega) (by omega), o _ (by omega) (by omega), o _ (by omega) (by omega), o _ (by omega) (by omega), o _ (by omega) (by omega)]
    exact ⟨c1, c2, c3, c4⟩
theorem BA.set {M N : Mem} {b : Int} {q q' : Int → Int} (h : BA M q) (hb : b = 15 + 85 * q 3 ∧ 1 ≤ q 3) (hq : q 3 ≤ 2) (hn : BT N q' b) (ho : ∀ i, i < b → q' i = q i) (o : ∀ i, 1188 ≤ i → i < b + 1088 → N 164 i = M 164 i) (hr : ∀ b, (b = 100 ∨ b = 185) → q (b + 4) ≤ 20 ∨ q 3 = 0) : BA N q' := by
  have u := ho 3 (by omega)
  unfold BA
  rw [u]
  rcases (by omega : (b = 100 ∧ q 3 = 1) ∨ (b = 185 ∧ q 3 = 2)) with ⟨e, e3⟩ | ⟨e, e3⟩ <;> subst e
  · exact ⟨fun _ => hn, fun a => by omega⟩
  · exact ⟨fun _ => BT.cg (h.1 (by omega)) (fun i a c => ⟨ho _ (by omega), o _ (by omega) (by omega)⟩) (by have := hr 100 (Or.inl rfl); omega), fun _ => hn⟩
/-- the reference in the midst of states -/
def zTR (N M : Mem) (B : Int → Int) (ns j s0 a : Int) : Prop := ∃ x : Int, 0 ≤ x ∧ SLN B ns j x.toNat s0 (N 164 a) ∧ RT N B (j + x + 1) ∧ ∀ i, ¬ i = a → ¬ i = 1358 → N 164 i = M 164 i
theorem zTR.ini {N M : Mem} {B : Int → Int} {ns j s0 a : Int} (hS : N 164 a = s0) (hR : RT N B (j + 1)) (ho : ∀ i, N 164 i = M 164 i) : zTR N M B ns j s0 a := ⟨0, Int.le_refl _, hS, by rw [Int.add_zero]; exact hR, fun i _ _ => ho i⟩
theorem zTR.next {N N' M : Mem} {B : Int → Int} {ns j s0 a x v : Int} (h0 : 0 ≤ x) (hS : SLN B ns j x.toNat s0 (N 164 a)) (hg : GN B ns (j + x + 1) (N 164 a)) (hN : N' 164 a = zor (N 164 a) (zshl 1 v)) (hv : v = tv B (j + x + 1)) (hR : RT N' B (j + x + 2)) (ho : ∀ i, ¬ i = a → ¬ i = 1358 → N' 164 i = M 164 i) : zTR N' M B ns j s0 a := by
  subst hv
  refine ⟨x + 1, by omega, ?_, by rw [show j + (x + 1) + 1 = j + x + 2 by omega]; exact hR, ho⟩
  rw [show (x + 1).toNat = x.toNat + 1 by omega, hN]
  refine ⟨N 164 a, hS, ?_, ?_⟩
  · rw [show ((x.toNat : Nat) : Int) = x by omega]; exact hg
  · rw [show ((x.toNat : Nat) : Int) = x by omega]
theorem zTR.sr {B : Int → Int} {ns j s0 x s r fk fp : Int} (h0 : 0 ≤ x) (hS : SLN B ns j x.toNat s0 s) (hs : SRs B ns (j + x + 1) s r fk fp) : SR B ns j s0 (j + x + 1) s r fk fp := ⟨x.toNat, hS, by omega, hs⟩
theorem zTR.m {B : Int → Int} {ns j s0 x s : Int} (h0 : 0 ≤ x) (hS : SLN B ns j x.toNat s0 s) (hs : tbd B (j + x + 1) = 1 ∨ tk B (j + x + 1) ≠ 2) : zSRm B ns j s0 (j + x + 1) s := ⟨x.toNat, hS, by omega, hs⟩
/-- the next token lies behind -/
theorem tp_up {B : Int → Int} {n j i : Int} (hT : TX B n) (hn : 0 ≤ n) (hj : 0 ≤ j) (hi : i = j + 1) (hk : tk B j = 1 ∨ tk B j = 2) : tp B j + 1 ≤ tp B i ∧ tp B i ≤ n := by
  subst hi
  have h1 := (tp_s hT (i := j) (j := j + 1) (by omega) (by omega)).1
  have h2 := tq_end hT hj
  have h3 := tp_le hT hn (j := j + 1) (by omega)
  omega
theorem zPS.t {B t q : Int → Int} {j fk fp e n i : Int} {q2 t2 : Int → Int} (h : zPS B t q j 1 fk fp e q2 t2) (hT : TX B n) (hn : 0 ≤ n) (hj : 0 ≤ j) (hi : i = e + 1) : tp B j + 1 ≤ tp B i ∧ tp B i ≤ n := by
  subst hi
  have k := h.k
  have k1 := kwd_t (B := B) (j := j) (by omega)
  have h2 := tq_end hT hj
  have h3 := tq_m hT hn hj (e - j).toNat
  have h4 := (tp_s hT (i := e) (j := e + 1) (by omega) (by omega)).1
  have h5 := tp_le hT hn (j := e + 1) (by omega)
  rw [show j + (((e - j).toNat : Nat) : Int) = e by omega] at h3
  omega
/-- a text's bytes in a row of bytes -/
def zTB (M : Mem) (c n : Int) (B : Int → Int) : Prop := ∀ i, (0 ≤ i ∧ i < n ∧ ((0 ≤ M c i ∧ B i = M c i) ∨ (M c i < 0 ∧ B i = M c i + 256))) ∨ ((i < 0 ∨ n ≤ i) ∧ B i = -1)
def zBY (M : Mem) (c n : Int) : Int → Int := fun i => if 0 ≤ i ∧ i < n then (if M c i < 0 then M c i + 256 else M c i) else -1
theorem zTB.mk (M : Mem) (c n : Int) : zTB M c n (zBY M c n) := fun i => by
  unfold zBY
  by_cases h : 0 ≤ i ∧ i < n
  · rw [if_pos h]
    left
    refine ⟨h.1, h.2, ?_⟩
    by_cases h2 : M c i < 0
    · right; exact ⟨h2, if_pos h2⟩
    · left; exact ⟨by omega, if_neg h2⟩
  · rw [if_neg h]
    right
    exact ⟨by omega, rfl⟩
theorem zTB.cg {M N : Mem} {c d n : Int} {B : Int → Int} (h : zTB M c n B) (e : ∀ i, 0 ≤ i → i < n → N d i = M c i) : zTB N d n B := fun i => by
  rcases h i with q | q
  · left; rw [e i q.1 q.2.1]; exact q
  · right; exact q
theorem TM.of {N : Mem} {n : Int} {B : Int → Int} (h : zTB N 170 n B) (hn : N 163 11 = n) : TM N B := by subst hn; exact h
/-- the first bytes of the tape in the text -/
def zCPY (N M : Mem) (x : Int) : Prop := ∀ k, 0 ≤ k → k < x → N 170 k = M 169 k
theorem zCPY.nil {N M : Mem} : zCPY N M 0 := fun k a b => by omega
theorem zCPY.step {N N' M : Mem} {x x' v : Int} (h : zCPY N M x) (hN : N' = mu N 170 x v) (hv : v = M 169 x) (hx : x' = x + 1) : zCPY N' M x' := fun k a b => by
  subst hx
  by_cases e : k = x
  · subst e; rw [hN, mu_s]; exact hv
  · rw [hN, mu_i (by omega)]; exact h k a (by omega)
theorem zCPY.at {N M : Mem} {x y : Int} (h : zCPY N M x) (e : x = y) : zCPY N M y := e ▸ h
theorem PZ.bq {N P Q : Mem} (h : PZ N P 272) (hM : Q = mu N 164 1092 (-1)) : BQ Q (fun _ => 0) := by
  have g := h.1
  unfold BQ
  rw [hM, mu_i (by decide), mu_i (by decide), mu_i (by decide), mu_i (by decide), mu_s]
  have e0 := g 0 (by decide) (by decide)
  have e1 := g 1 (by decide) (by decide)
  have e2 := g 2 (by decide) (by decide)
  have e3 := g 3 (by decide) (by decide)
  exact ⟨e0, e1, e2, e3, by decide, by decide, by decide, by decide, by decide, by decide, by decide, by decide, rfl⟩
/-- the reference between two parts -/
def zCKs (N : Mem) (B : Int → Int) (g j : Int) (q t : Int → Int) : Prop := (g = 1 ∧ RT N B j ∧ BQ N q ∧ NR N B t q ∧ BA N q ∧ N 163 18 = 0 ∧ N 163 17 = -1) ∨ (g = 0 ∧ zTm B t q j (N 163 18) (N 163 17) ∧ ¬ tk B j = 0)
def zCK (N : Mem) (B : Int → Int) (g : Int) : Prop := ∃ (k : Nat) (j : Int) (q t : Int → Int), zCH B k j q t ∧ zCKs N B g j q t
theorem zCKs.y {N : Mem} {B : Int → Int} {g j : Int} {q t : Int → Int} (h : zCKs N B g j q t) (hg : ¬ g = 0) : RT N B j ∧ BQ N q ∧ NR N B t q ∧ BA N q ∧ N 163 18 = 0 ∧ N 163 17 = -1 := by
  rcases h with h | h
  · exact h.2
  · exact absurd h.1 hg
theorem zCKs.n {N : Mem} {B : Int → Int} {g j : Int} {q t : Int → Int} (h : zCKs N B g j q t) (hg : g = 0) : zTm B t q j (N 163 18) (N 163 17) ∧ ¬ tk B j = 0 := by
  rcases h with h | h
  · exact absurd h.1 (by omega)
  · exact h.2
theorem zCK.ini {N : Mem} {B : Int → Int} (hR : RT N B 0) (hQ : BQ N (fun _ => 0)) (h1 : N 163 18 = 0) (h2 : N 163 17 = -1) : zCK N B 1 := ⟨0, 0, fun _ => 0, fun _ => 0, ⟨rfl, rfl, rfl⟩, Or.inl ⟨rfl, hR, hQ, fun s a b c => absurd (show s - 2 * (s / 2) < 0 from c) (by omega), BA.nil (Int.le_refl _), h1, h2⟩⟩
theorem zCK.next {N : Mem} {B q t q2 t2 : Int → Int} {k : Nat} {j r e fk fp : Int} (h : zCH B k j q t) (hr : 0 ≤ r ∧ r ≤ 1) (hk : ¬ tk B j = 0) (h0 : r = 0 → zTm B t q j (N 163 18) (N 163 17)) (h1 : r = 1 → zPS B t q j 1 fk fp e q2 t2 ∧ N 163 18 = 0 ∧ N 163 17 = -1 ∧ RT N B (e + 1) ∧ BQ N q2 ∧ NR N B t2 q2 ∧ BA N q2) : zCK N B r := by
  by_cases e0 : r = 0
  · exact ⟨k, j, q, t, h, Or.inr ⟨e0, h0 e0, hk⟩⟩
  · have e1 : r = 1 := by omega
    obtain ⟨a1, a2, a3, a4, a5, a6, a7⟩ := h1 e1
    exact ⟨k + 1, e + 1, q2, t2, ⟨j, q, t, fk, fp, e, h, a1, rfl⟩, Or.inl ⟨e1, a4, a5, a6, a7, a2, a3⟩⟩
/-- what the reading comes to, with the answer -/
def zRES (B : Int → Int) (fk fp r : Int) : Prop := ∃ q t, zOUT B fk fp q t ∧ ((fk = 0 ∧ r = q 3) ∨ (¬ fk = 0 ∧ r = -1))
theorem zRES.u {B : Int → Int} {fk fp r fk' fp' r' : Int} (h : zRES B fk fp r) (h' : zRES B fk' fp' r') : fk = fk' ∧ fp = fp' ∧ r = r' := by
  obtain ⟨q, t, a, b⟩ := h
  obtain ⟨q', t', a', b'⟩ := h'
  obtain ⟨e1, e2, e3, e4⟩ := a.u a'
  subst e1 e2 e3
  refine ⟨rfl, rfl, ?_⟩
  rcases b with b | b <;> rcases b' with b' | b'
  · exact b.2.trans b'.2.symm
  · exact absurd b.1 b'.1
  · exact absurd b'.1 b.1
  · exact b.2.trans b'.2.symm
theorem zRES.n {B q t : Int → Int} {k : Nat} {j fk fp r : Int} (h : zCH B k j q t) (ht : zTm B t q j fk fp) (hk : ¬ fk = 0) (hr : r = -1) : zRES B fk fp r := ⟨q, t, ⟨k, j, h, ht⟩, Or.inr ⟨hk, hr⟩⟩
theorem zRES.y {B q t : Int → Int} {k : Nat} {j fk fp r : Int} (h : zCH B k j q t) (ht : tk B j = 0) (hk : fk = 0) (hp : fp = -1) (hr : r = q 3) : zRES B fk fp r := ⟨q, t, ⟨k, j, h, Or.inr (Or.inr ⟨ht, hk, hp⟩)⟩, Or.inl ⟨hk, hr⟩⟩
