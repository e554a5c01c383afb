/-! what the law's walk keeps of rules: calls have symbols -/
theorem slot_n {N : Mem} (hJ : Inv true N) (s : Int) : ∀ a, 0 ≤ a → a < N 164 (272 * s + 3) → N 164 (272 * s + (85 * a + 100 + 4)) ≤ 20 ∧ a ≤ 1 := fun a a0 a1 => by
  have f := at_n (272 * s + 3) s (by omega)
  have g := Inv.g hJ kd_164 rfl (272 * s + 3) (a := 0) (b := 2) f.1 f.2
  have c := at_cnt hJ s a a0 (by omega)
  rw [show 272 * s + (85 * a + 100 + 4) = 272 * s + 104 + 85 * a by omega]
  exact ⟨c, by omega⟩
theorem slot_0 {N : Mem} (hJ : Inv true N) : ∀ a, 0 ≤ a → a < N 164 3 → N 164 (85 * a + 100 + 4) ≤ 20 ∧ a ≤ 1 := fun a a0 a1 => by
  have h := slot_n hJ 0 a a0 (by rw [show (272 : Int) * 0 + 3 = 3 by decide]; exact a1)
  rw [show 272 * 0 + (85 * a + 100 + 4) = 85 * a + 100 + 4 by omega] at h
  exact h
def zTQ (M N : Mem) : Prop := zQC (N 164) ∧ ∀ m, 0 ≤ m → m < M 0 7 → m ≤ 2 → zQC (fun i => N 164 (272 * (m + 1) + i))
theorem zTQ.c {M M' N : Mem} (h : zTQ M N) (e7 : M' 0 7 = M 0 7) : zTQ M' N := ⟨h.1, fun m m0 m1 m2 => h.2 m m0 (by omega) m2⟩
theorem zTQ.m {M N N' : Mem} (h : zTQ M N) (hJ : Inv true N) (e : ∀ i, (i < 4 ∨ 100 ≤ i) → i < 1088 → (i < 272 ∨ i % 272 < 4 ∨ 100 ≤ i % 272) → N' 164 i = N 164 i) : zTQ M N' :=
  ⟨h.1.cg (slot_0 hJ) (fun i hi => e i (by omega) (by omega) (by omega)), fun m m0 m1 m2 => (h.2 m m0 m1 m2).cg (fun a a0 a1 => slot_n hJ (m + 1) a a0 a1) (fun i hi => e _ (by omega) (by omega) (by omega))⟩
theorem zTQ.eq {M M' N U : Mem} (h : zTQ M N) (e7 : M' 0 7 ≤ M 0 7) (u : U 164 = N 164) : zTQ M' U := by
  unfold zTQ
  rw [u]
  exact ⟨h.1, fun m m0 m1 m2 => h.2 m m0 (by omega) m2⟩
/-- the live one has changed -/
theorem zTQ.chg {M M' N U : Mem} (h : zTQ M N) (hJ : Inv true N) (e7 : M' 0 7 = M 0 7) (hl : zQC (U 164)) (ho : ∀ i, 272 ≤ i → i < 1088 → U 164 i = N 164 i) : zTQ M' U :=
  ⟨hl, fun m m0 m1 m2 => (h.2 m m0 (by omega) m2).cg (fun a a0 a1 => slot_n hJ (m + 1) a a0 a1) (fun i hi => ho _ (by omega) (by omega))⟩
theorem zTQ.mark {M M' N U : Mem} (h : zTQ M N) (hJ : Inv true N) (h7 : 0 ≤ M 0 7 ∧ M 0 7 ≤ 2) (e7 : M' 0 7 = M 0 7 + 1) (u1 : ∀ i, 0 ≤ i → i < 272 → U 164 (272 * (M 0 7 + 1) + i) = N 164 i) (u2 : ∀ i, (i < 272 * (M 0 7 + 1) ∨ 272 * (M 0 7 + 1) + 272 ≤ i) → U 164 i = N 164 i) : zTQ M' U := by
  refine ⟨h.1.cg (slot_0 hJ) (fun i hi => u2 i (by omega)), fun m m0 m1 m2 => ?_⟩
  by_cases e : m = M 0 7
  · rw [e]
    exact h.1.cg (slot_0 hJ) (fun i hi => u1 i (by omega) (by omega))
  · exact (h.2 m m0 (by omega) m2).cg (fun a a0 a1 => slot_n hJ (m + 1) a a0 a1) (fun i hi => u2 _ (by omega))
theorem zTQ.undo {M M' N U : Mem} (h : zTQ M N) (hJ : Inv true N) (h7 : 1 ≤ M 0 7 ∧ M 0 7 ≤ 3) (e7 : M' 0 7 = M 0 7 - 1) (u1 : ∀ i, 0 ≤ i → i < 272 → U 164 i = N 164 (272 * M 0 7 + i)) (u2 : ∀ i, (i < 0 ∨ 272 ≤ i) → U 164 i = N 164 i) : zTQ M' U := by
  have g := h.2 (M 0 7 - 1) (by omega) (by omega) (by omega)
  have s := fun a a0 a1 => slot_n hJ (M 0 7 - 1 + 1) a a0 a1
  refine ⟨g.cg s (fun i hi => ?_), fun m m0 m1 m2 => (h.2 m m0 (by omega) m2).cg (fun a a0 a1 => slot_n hJ (m + 1) a a0 a1) (fun i hi => u2 _ (by omega))⟩
  show U 164 i = N 164 (272 * (M 0 7 - 1 + 1) + i)
  rw [show M 0 7 - 1 + 1 = M 0 7 by omega]
  exact u1 i (by omega) (by omega)
theorem m0_tq : zTQ M0 M0 := ⟨zQC.no (by decide +kernel), fun m m0 m1 _ => absurd m1 (by rw [show M0 0 7 = 0 from rfl]; omega)⟩
