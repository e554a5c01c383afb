/-! the reference's checker that is read -/
def BQ (M : Mem) (q : Int → Int) : Prop := M 164 1088 = q 0 ∧ M 164 1089 = q 1 ∧ M 164 1090 = q 2 ∧ M 164 1091 = q 3 ∧ 0 ≤ q 0 ∧ q 0 ≤ 2 ∧ 0 ≤ q 1 ∧ q 1 ≤ 2 ∧ 0 ≤ q 2 ∧ q 2 ≤ 2 ∧ 0 ≤ q 3 ∧ q 3 ≤ 2
theorem BQ.up {M N : Mem} {a v : Int} {q : Int → Int} (h : BQ M q) (ha : 0 ≤ a ∧ a ≤ 2) (hq : q a ≤ 1) (f : N 164 (a + 1088) = v) (hv : v = q a + 1) (o : ∀ i, ¬ i = a + 1088 → N 164 i = M 164 i) : BQ N (upk q a (q a + 1)) := by
  unfold BQ at h ⊢
  have e : a = 0 ∨ a = 1 ∨ a = 2 := by omega
  rcases e with e | e | e <;> subst e
  · rw [upk_s, upk_o (show (1 : Int) ≠ 0 by decide), upk_o (show (2 : Int) ≠ 0 by decide), upk_o (show (3 : Int) ≠ 0 by decide), o 1089 (by decide), o 1090 (by decide), o 1091 (by decide)]
    have f2 : N 164 1088 = v := f
    omega
  · rw [upk_s, upk_o (show (0 : Int) ≠ 1 by decide), upk_o (show (2 : Int) ≠ 1 by decide), upk_o (show (3 : Int) ≠ 1 by decide), o 1088 (by decide), o 1090 (by decide), o 1091 (by decide)]
    have f2 : N 164 1089 = v := f
    omega
  · rw [upk_s, upk_o (show (0 : Int) ≠ 2 by decide), upk_o (show (1 : Int) ≠ 2 by decide), upk_o (show (3 : Int) ≠ 2 by decide), o 1088 (by decide), o 1089 (by decide), o 1091 (by decide)]
    have f2 : N 164 1090 = v := f
    omega
theorem NR.up {M N : Mem} {a s0 v j1 : Int} {B t q : Int → Int} (h : NR M B t q) (ha : 0 ≤ a ∧ a ≤ 2) (hq : 0 ≤ q a ∧ q a ≤ 1) (hs : s0 = 24 + 2 * a + q a) (u : UP M N 165 s0 v) (hv : v = tpk B j1) (hn : nmt B j1) : NR N B (upk t (2 * a + q a) j1) (upk q a (q a + 1)) := fun s h0 h5 hu => by
  rw [u (24 + s)]
  by_cases e : s = 2 * a + q a
  · subst e
    rw [if_pos (by omega), upk_s]
    exact ⟨hn, hv⟩
  · rw [if_neg (by omega), upk_o e]
    refine h s h0 h5 ?_
    by_cases z : s / 2 = a
    · rw [z, upk_s] at hu
      rw [z]
      omega
    · rw [upk_o z] at hu
      exact hu
theorem NR.cg {M : Mem} {B t q q' : Int → Int} (h : NR M B t q) (g0 : q' 0 = q 0) (g1 : q' 1 = q 1) (g2 : q' 2 = q 2) : NR M B t q' := fun s a b d => by
  refine h s a b ?_
  have e : s / 2 = 0 ∨ s / 2 = 1 ∨ s / 2 = 2 := by omega
  rcases e with e | e | e <;> rw [e] at d ⊢
  · rw [← g0]; exact d
  · rw [← g1]; exact d
  · rw [← g2]; exact d
def BT (M : Mem) (q : Int → Int) (b : Int) : Prop := M 164 (b + 1088) = q b ∧ M 164 (b + 1089) = q (b + 1) ∧ M 164 (b + 1090) = q (b + 2) ∧ M 164 (b + 1091) = q (b + 3) ∧ M 164 (b + 1092) = q (b + 4) ∧ ∀ k, 0 ≤ k → k < q (b + 4) → M 164 (b + 4 * k + 1093) = q (b + 5 + 4 * k) ∧ M 164 (b + 4 * k + 1094) = q (b + 6 + 4 * k) ∧ M 164 (b + 4 * k + 1095) = q (b + 7 + 4 * k) ∧ M 164 (b + 4 * k + 1096) = q (b + 8 + 4 * k)
theorem BT.cg {M N : Mem} {b : Int} {q q' : Int → Int} (h : BT M q b) (hb : ∀ i, b ≤ i → i < b + 85 → q' i = q i ∧ N 164 (i + 1088) = M 164 (i + 1088)) (hr : q (b + 4) ≤ 20) : BT N q' b := by
  obtain ⟨a0, a1, a2, a3, a4, a6⟩ := h
  have g : ∀ i, b ≤ i → i < b + 85 → ∀ z, M 164 (i + 1088) = q z → i = z → N 164 (i + 1088) = q' z := fun i h1 h2 z h3 h4 => by
    subst h4
    rw [(hb i h1 h2).1, (hb i h1 h2).2, h3]
  have c : ∀ x y : Int, x + 1088 = y → x = y - 1088 := fun x y e => by omega
  refine ⟨g b (by omega) (by omega) b a0 rfl, ?_, ?_, ?_, ?_, fun k hk hl => ?_⟩
  · have := g (b + 1) (by omega) (by omega) (b + 1) (by rw [show b + 1 + 1088 = b + 1089 by omega]; exact a1) rfl
    rw [show b + 1 + 1088 = b + 1089 by omega] at this; exact this
  · have := g (b + 2) (by omega) (by omega) (b + 2) (by rw [show b + 2 + 1088 = b + 1090 by omega]; exact a2) rfl
    rw [show b + 2 + 1088 = b + 1090 by omega] at this; exact this
  · have := g (b + 3) (by omega) (by omega) (b + 3) (by rw [show b + 3 + 1088 = b + 1091 by omega]; exact a3) rfl
    rw [show b + 3 + 1088 = b + 1091 by omega] at this; exact this
  · have := g (b + 4) (by omega) (by omega) (b + 4) (by rw [show b + 4 + 1088 = b + 1092 by omega]; exact a4) rfl
    rw [show b + 4 + 1088 = b + 1092 by omega] at this; exact this
  · rw [(hb (b + 4) (by omega) (by omega)).1] at hl
    obtain ⟨c1, c2, c3, c4⟩ := a6 k hk hl
    have f : ∀ d, 5 ≤ d → d ≤ 8 → ∀ y, b + d + 4 * k + 1088 = y → M 164 y = q (b + d + 4 * k) → N 164 y = q' (b + d + 4 * k) := fun d d1 d2 y hy hm => by
      subst hy
      rw [(hb (b + d + 4 * k) (by omega) (by omega)).2, (hb (b + d + 4 * k) (by omega) (by omega)).1]
      exact hm
    exact ⟨f 5 (by decide) (by decide) _ (by omega) c1, f 6 (by decide) (by decide) _ (by omega) c2, f 7 (by decide) (by decide) _ (by omega) c3, f 8 (by decide) (by decide) _ (by omega) c4⟩
def BA (M : Mem) (q : Int → Int) : Prop := (0 < q 3 → BT M q 100) ∧ (1 < q 3 → BT M q 185)
theorem BA.new {M N : Mem} {s g : Int} {q : Int → Int} (h : BA M q) (hQ : 0 ≤ q 3 ∧ q 3 ≤ 1) (h0 : N 164 (85 * q 3 + 1188) = s) (h1 : N 164 (85 * q 3 + 1189) = g) (h2 : N 164 (85 * q 3 + 1190) = 0) (h3 : N 164 (85 * q 3 + 1191) = 0) (h4 : N 164 (85 * q 3 + 1192) = 0) (o : ∀ i, i < 85 * q 3 + 1188 → ¬ i = 1091 → N 164 i = M 164 i) (hr : ∀ b, (b = 100 ∨ b = 185) → q (b + 4) ≤ 20 ∨ q 3 = 0) : BA N (uaut q s g) := by
  have u := uaut_3 (q := q) (s := s) (g := g) hQ.1
  have e0 : uaut q s g (100 + 85 * q 3) = s := by unfold uaut upclr; rw [if_pos rfl]
  have e1 : uaut q s g (100 + 85 * q 3 + 1) = g := by unfold uaut upclr; rw [if_neg (by omega), if_pos rfl]
  have e2 : ∀ i, 2 ≤ i → i ≤ 4 → uaut q s g (100 + 85 * q 3 + i) = 0 := fun i a b => by unfold uaut upclr; rw [if_neg (by omega), if_neg (by omega), if_pos (by omega)]
  have n : BT N (uaut q s g) (100 + 85 * q 3) := by
    refine ⟨by rw [e0, ← h0]; congr 1; omega, by rw [e1, ← h1]; congr 1; omega, by rw [e2 2 (by decide) (by decide), ← h2]; congr 1; omega, by rw [e2 3 (by decide) (by decide), ← h3]; congr 1; omega, by rw [e2 4 (by decide) (by decide), ← h4]; congr 1; omega, fun k a b => ?_⟩
    rw [e2 4 (by decide) (by decide)] at b
    omega
  unfold BA
  rw [u]
  have e : q 3 = 0 ∨ q 3 = 1 := by omega
  rcases e with e | e
  · refine ⟨fun _ => ?_, fun a => by omega⟩
    rw [e, Int.mul_zero, Int.add_zero] at n
    exact n
  · refine ⟨fun _ => ?_, fun _ => ?_⟩
    · exact BT.cg (h.1 (by omega)) (fun i a b => ⟨uaut_o (by omega) (by omega), o _ (by omega) (by omega)⟩) (by have := hr 100 (Or.inl rfl); omega)
    · rw [e] at n
      exact n
theorem BQ.cg {M N : Mem} {q q' : Int → Int} (h : BQ M q) (f0 : N 164 1088 = M 164 1088) (f1 : N 164 1089 = M 164 1089) (f2 : N 164 1090 = M 164 1090) (f3 : N 164 1091 = q' 3) (g0 : q' 0 = q 0) (g1 : q' 1 = q 1) (g2 : q' 2 = q 2) (g3 : 0 ≤ q' 3 ∧ q' 3 ≤ 2) : BQ N q' := by
  unfold BQ at h ⊢
  rw [f0, f1, f2, f3, g0, g1, g2]
  omega
theorem BQ.at {M : Mem} {q : Int → Int} {a : Int} (h : BQ M q) (ha : 0 ≤ a ∧ a ≤ 2) : M 164 (a + 1088) = q a ∧ 0 ≤ q a ∧ q a ≤ 2 := by
  obtain ⟨h0, h1, h2, h3, h4⟩ := h
  have e : a = 0 ∨ a = 1 ∨ a = 2 := by omega
  rcases e with e | e | e
  · subst e; exact ⟨h0, by omega⟩
  · subst e; exact ⟨h1, by omega⟩
  · subst e; exact ⟨h2, by omega⟩
