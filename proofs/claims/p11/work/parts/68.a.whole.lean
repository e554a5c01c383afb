/-! the whole text: the reference -/
theorem TM.st {M N : Mem} {B : Int → Int} {c i v : Int} {k : Nat} (h : TM M B) (hN : N = mu M c i v) (hk : kd c = k) (hn : ((64 == k) || (71 == k)) = false) : TM N B := fun z => by
  simp only [Bool.or_eq_false_iff] at hn
  rw [hN, mu_k kd_163 hk hn.1, mu_k kd_170 hk hn.2]; exact h z
theorem zSRm.j {B : Int → Int} {ns j s0 e s : Int} (h : zSRm B ns j s0 e s) : j + 1 ≤ e := by
  obtain ⟨k, a, b, c⟩ := h; omega
