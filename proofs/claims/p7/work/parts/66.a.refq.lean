theorem BT.num {M : Mem} {b : Int} {q : Int → Int} (h : BT M q b) : M 164 (b + 1088) = q b ∧ M 164 (b + 1089) = q (b + 1) ∧ M 164 (b + 1090) = q (b + 2) ∧ M 164 (b + 1091) = q (b + 3) ∧ M 164 (b + 1092) = q (b + 4) := ⟨h.1, h.2.1, h.2.2.1, h.2.2.2.1, h.2.2.2.2.1⟩
theorem BT.n {M : Mem} {b y d : Int} {q : Int → Int} (h : BT M q b) (hd : 0 ≤ d ∧ d ≤ 4) (hy : y = b + d + 1088) : M 164 y = q (b + d) := by
  have e : d = 0 ∨ d = 1 ∨ d = 2 ∨ d = 3 ∨ d = 4 := by omega
  have g := h.num
  subst hy
  rcases e with e | e | e | e | e <;> subst e
  · rw [Int.add_zero]; exact g.1
  · rw [show b + 1 + 1088 = b + 1089 by omega]; exact g.2.1
  · rw [show b + 2 + 1088 = b + 1090 by omega]; exact g.2.2.1
  · rw [show b + 3 + 1088 = b + 1091 by omega]; exact g.2.2.2.1
  · rw [show b + 4 + 1088 = b + 1092 by omega]; exact g.2.2.2.2
theorem BT.rul {M : Mem} {b : Int} {q : Int → Int} (h : BT M q b) : ∀ k, 0 ≤ k → k < q (b + 4) → M 164 (b + 4 * k + 1093) = q (b + 5 + 4 * k) ∧ M 164 (b + 4 * k + 1094) = q (b + 6 + 4 * k) ∧ M 164 (b + 4 * k + 1095) = q (b + 7 + 4 * k) ∧ M 164 (b + 4 * k + 1096) = q (b + 8 + 4 * k) := h.2.2.2.2.2
theorem BT.r {M : Mem} {b k y0 y1 y2 y3 : Int} {q : Int → Int} (h : BT M q b) (h0 : 0 ≤ k) (h1 : k < q (b + 4)) (e0 : y0 = b + 4 * k + 1093) (e1 : y1 = b + 4 * k + 1094) (e2 : y2 = b + 4 * k + 1095) (e3 : y3 = b + 4 * k + 1096) : M 164 y0 = q (b + 5 + 4 * k) ∧ M 164 y1 = q (b + 6 + 4 * k) ∧ M 164 y2 = q (b + 7 + 4 * k) ∧ M 164 y3 = q (b + 8 + 4 * k) := by
  subst e0 e1 e2 e3; exact h.rul k h0 h1
theorem BT.fr {L : List (Nat × Int)} {M N : Mem} {b : Int} {q : Int → Int} (h : BT M q b) (hF : Fr L M N) (hL : L.all (fun p => !(p.1 == 65)) = true) : BT N q b := by
  unfold BT; rw [hF.fn kd_164 hL]; exact h
theorem BQ.fr {L : List (Nat × Int)} {M N : Mem} {q : Int → Int} (h : BQ M q) (hF : Fr L M N) (hL : L.all (fun p => !(p.1 == 65)) = true) : BQ N q := by
  unfold BQ; rw [hF.fn kd_164 hL]; exact h
theorem BA.fr {L : List (Nat × Int)} {M N : Mem} {q : Int → Int} (h : BA M q) (hF : Fr L M N) (hL : L.all (fun p => !(p.1 == 65)) = true) : BA N q := ⟨fun a => (h.1 a).fr hF hL, fun a => (h.2 a).fr hF hL⟩
theorem BT.set {M N : Mem} {b i v : Int} {q : Int → Int} (h : BT M q b) (hi : i = 2 ∨ i = 3) (hv : N 164 (b + i + 1088) = v) (o : ∀ k, k ≠ b + i + 1088 → b + 1088 ≤ k → k < b + 1173 → N 164 k = M 164 k) (hr : q (b + 4) ≤ 20) : BT N (upk q (b + i) v) b := by
  obtain ⟨a0, a1, a2, a3, a4, a6⟩ := h
  have r : ∀ k, 0 ≤ k → k < upk q (b + i) v (b + 4) → N 164 (b + 4 * k + 1093) = upk q (b + i) v (b + 5 + 4 * k) ∧ N 164 (b + 4 * k + 1094) = upk q (b + i) v (b + 6 + 4 * k) ∧ N 164 (b + 4 * k + 1095) = upk q (b + i) v (b + 7 + 4 * k) ∧ N 164 (b + 4 * k + 1096) = upk q (b + i) v (b + 8 + 4 * k) := fun k h0 h1 => by
    rw [upk_o (by omega)] at h1
    obtain ⟨c1, c2, c3, c4⟩ := a6 k h0 h1
    rw [upk_o (by omega), upk_o (by omega), upk_o (by omega), upk_o (by omega), o _ (by omega) (by omega) (by omega), o _ (by omega) (by omega) (by omega), o _ (by omega) (by omega) (by omega), o _ (by omega) (by omega) (by omega)]
    exact ⟨c1, c2, c3, c4⟩
  rcases hi with e | e <;> subst e
  · exact ⟨by rw [upk_o (by omega), o _ (by omega) (by omega) (by omega)]; exact a0, by rw [upk_o (by omega), o _ (by omega) (by omega) (by omega)]; exact a1, by rw [upk_s, show b + 1090 = b + 2 + 1088 by omega]; exact hv, by rw [upk_o (by omega), o _ (by omega) (by omega) (by omega)]; exact a3, by rw [upk_o (by omega), o _ (by omega) (by omega) (by omega)]; exact a4, r⟩
  · exact ⟨by rw [upk_o (by omega), o _ (by omega) (by omega) (by omega)]; exact a0, by rw [upk_o (by omega), o _ (by omega) (by omega) (by omega)]; exact a1, by rw [upk_o (by omega), o _ (by omega) (by omega) (by omega)]; exact a2, by rw [upk_s, show b + 1091 = b + 3 + 1088 by omega]; exact hv, by rw [upk_o (by omega), o _ (by omega) (by omega) (by omega)]; exact a4, r⟩
theorem BA.set {M N : Mem} {b : Int} {q q' : Int → Int} (h : BA M q) (hb : b = 15 + 85 * q 3 ∧ 1 ≤ q 3) (hq : q 3 ≤ 2) (hn : BT N q' b) (ho : ∀ i, i < b → q' i = q i) (o : ∀ i, 1188 ≤ i → i < b + 1088 → N 164 i = M 164 i) (hr : ∀ b, (b = 100 ∨ b = 185) → q (b + 4) ≤ 20 ∨ q 3 = 0) : BA N q' := by
  have u := ho 3 (by omega)
  unfold BA
  rw [u]
  rcases (by omega : (b = 100 ∧ q 3 = 1) ∨ (b = 185 ∧ q 3 = 2)) with ⟨e, e3⟩ | ⟨e, e3⟩ <;> subst e
  · exact ⟨fun _ => hn, fun a => by omega⟩
  · exact ⟨fun _ => BT.cg (h.1 (by omega)) (fun i a c => ⟨ho _ (by omega), o _ (by omega) (by omega)⟩) (by have := hr 100 (Or.inl rfl); omega), fun _ => hn⟩
/-- a text's bytes in a row of bytes -/
def zTB (M : Mem) (c n : Int) (B : Int → Int) : Prop := ∀ i, (0 ≤ i ∧ i < n ∧ ((0 ≤ M c i ∧ B i = M c i) ∨ (M c i < 0 ∧ B i = M c i + 256))) ∨ ((i < 0 ∨ n ≤ i) ∧ B i = -1)
theorem zTB.cg {M N : Mem} {c d n : Int} {B : Int → Int} (h : zTB M c n B) (e : ∀ i, 0 ≤ i → i < n → N d i = M c i) : zTB N d n B := fun i => by
  rcases h i with q | q
  · left; rw [e i q.1 q.2.1]; exact q
  · right; exact q
theorem TM.of {N : Mem} {n : Int} {B : Int → Int} (h : zTB N 170 n B) (hn : N 163 11 = n) : TM N B := by subst hn; exact h
/-- the first bytes of the tape in the text -/
def zCPY (N M : Mem) (x : Int) : Prop := ∀ k, 0 ≤ k → k < x → N 170 k = M 169 k
theorem zCPY.at {N M : Mem} {x y : Int} (h : zCPY N M x) (e : x = y) : zCPY N M y := e ▸ h
/-- the reference between two parts -/
def zCKs (N : Mem) (B : Int → Int) (g j : Int) (q t : Int → Int) : Prop := (g = 1 ∧ RT N B j ∧ BQ N q ∧ NR N B t q ∧ BA N q ∧ N 163 18 = 0 ∧ N 163 17 = -1) ∨ (g = 0 ∧ zTm B t q j (N 163 18) (N 163 17) ∧ ¬ tk B j = 0)
theorem zCKs.n {N : Mem} {B : Int → Int} {g j : Int} {q t : Int → Int} (h : zCKs N B g j q t) (hg : g = 0) : zTm B t q j (N 163 18) (N 163 17) ∧ ¬ tk B j = 0 := by
  rcases h with h | h
  · exact absurd h.1 (by omega)
  · exact h.2
/-- what the reading comes to, with the answer -/
def zRES (B : Int → Int) (fk fp r : Int) : Prop := ∃ q t, zOUT B fk fp q t ∧ ((fk = 0 ∧ r = q 3) ∨ (¬ fk = 0 ∧ r = -1))
theorem zRES.u {B : Int → Int} {fk fp r fk' fp' r' : Int} (h : zRES B fk fp r) (h' : zRES B fk' fp' r') : fk = fk' ∧ fp = fp' ∧ r = r' := by
  obtain ⟨q, t, a, b⟩ := h
  obtain ⟨q', t', a', b'⟩ := h'
  obtain ⟨e1, e2, e3, e4⟩ := a.u a'
  subst e1 e2 e3
  refine ⟨rfl, rfl, ?_⟩
  rcases b with b | b <;> rcases b' with b' | b'
  · exact b.2.trans b'.2.symm
  · exact absurd b.1 b'.1
  · exact absurd b'.1 b.1
  · exact b.2.trans b'.2.symm
theorem zRES.n {B q t : Int → Int} {k : Nat} {j fk fp r : Int} (h : zCH B k j q t) (ht : zTm B t q j fk fp) (hk : ¬ fk = 0) (hr : r = -1) : zRES B fk fp r := ⟨q, t, ⟨k, j, h, ht⟩, Or.inr ⟨hk, hr⟩⟩
