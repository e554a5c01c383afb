def zTQ (M N : Mem) : Prop := zQC (N 164) ∧ ∀ m, 0 ≤ m → m < M 0 7 → m ≤ 2 → zQC (fun i => N 164 (272 * (m + 1) + i))
theorem zTQ.c {M M' N : Mem} (h : zTQ M N) (e7 : M' 0 7 = M 0 7) : zTQ M' N := ⟨h.1, fun m m0 m1 m2 => h.2 m m0 (by omega) m2⟩
theorem zTQ.eq {M M' N U : Mem} (h : zTQ M N) (e7 : M' 0 7 ≤ M 0 7) (u : U 164 = N 164) : zTQ M' U := by
  unfold zTQ
  rw [u]
  exact ⟨h.1, fun m m0 m1 m2 => h.2 m m0 (by omega) m2⟩
theorem m0_tq : zTQ M0 M0 := ⟨zQC.no (by decide +kernel), fun m m0 m1 _ => absurd m1 (by rw [show M0 0 7 = 0 from rfl]; omega)⟩
