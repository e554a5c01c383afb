/-! the relations that are found stay few -/
def RP (M : Mem) (A : Int → Int) (b : Int) : Prop := RO A b M
theorem RP.nil {M : Mem} {A : Int → Int} {b : Int} (h : M 163 45 = 0) : RP M A b := ⟨fun i h0 h1 => absurd h1 (by omega), fun i j h0 h1 h2 => absurd h2 (by omega)⟩
theorem RP.new {M N : Mem} {A : Int → Int} {b v m : Int} (h : RP M A b) (hg : Gd A b v) (hm : m = M 163 45) (hn : ∀ i, 0 ≤ i → i < m → ¬ M 187 i = v) (h1 : N 163 45 = m + 1) (h2 : ∀ j, ¬ j = m → N 187 j = M 187 j) (h3 : N 187 m = v) : RP N A b := by
  refine ⟨fun i h0 hi => ?_, fun i j h0 hi hj => ?_⟩
  · by_cases e : i = m
    · subst e; rw [h3]; exact hg
    · rw [h2 i e]; exact h.1 i h0 (by omega)
  · rw [h2 i (by omega)]
    by_cases e : j = m
    · subst e; rw [h3]; exact hn i h0 hi
    · rw [h2 j e]; exact h.2 i j h0 hi (by omega)
theorem RP.eq {M N : Mem} {A : Int → Int} {b : Int} (h : RP M A b) (h1 : N 163 45 = M 163 45) (h2 : ∀ j, N 187 j = M 187 j) : RP N A b := ⟨fun i h0 hi => by rw [h2]; exact h.1 i h0 (by omega), fun i j h0 hi hj => by rw [h2, h2]; exact h.2 i j h0 hi (by omega)⟩
theorem RP.fr {L : List (Nat × Int)} {M N : Mem} {A : Int → Int} {b : Int} (h : RP M A b) (hF : Fr L M N) (h1 : fin L 64 45 = false) (h2 : L.all (fun p => !(p.1 == 86)) = true) : RP N A b := h.eq (hF.e kd_163 45 h1) (fun j => hF.e kd_187 j (fin_no h2))
theorem RP.st {M N : Mem} {A : Int → Int} {b c i v : Int} {k : Nat} (h : RP M A b) (hM : N = mu M c i v) (hk : kd c = k) (h1 : (64 == k) = false) (h2 : (86 == k) = false) : RP N A b := h.eq (by rw [hM, mu_k kd_163 hk h1]) (fun j => by rw [hM, mu_k kd_187 hk h2])
theorem RP.le {M : Mem} {A : Int → Int} {b : Int} (h : RP M A b) (hA : AOK A b) (hc : Clo A b) : M 163 45 ≤ 40 := RO.le h hA hc
theorem Gd.ov {N : Mem} {A : Int → Int} {b i c l r : Int} (hD : LD N) (e : N 164 = A) (hA : AOK A b) (hO : RP N A b) (hi : 0 ≤ i ∧ i < N 163 45) (hb : 0 ≤ b ∧ b ≤ 1) (hc : 0 ≤ c ∧ c < A 0) (hl : A 0 ≤ l ∧ l < A 0 + A 1) (hr : r = ovr (N 171) b (N 187 i) c l) : Gd A b r := by
  have a0 := hA.2.2.2.2.1
  have a1 := hA.2.2.2.2.2.1
  rw [hr, hD.ovv hb (by omega) (by omega), e]
  exact Gd.over hA (hO.1 i hi.1 hi.2) hc hl
theorem Gd.inn {N : Mem} {A : Int → Int} {b i l r s : Int} (hD : LD N) (e : N 164 = A) (hA : AOK A b) (hO : RP N A b) (hi : 0 ≤ i ∧ i < N 163 45) (hb : 0 ≤ b ∧ b ≤ 1) (hl : A 0 + A 1 ≤ l ∧ l < A 0 + A 1 + A 2) (hs : s = leadZ (N 171) (54 * b + 9 * l) 8 9) (hr : r = thnZ (N 187 i) s 9) : Gd A b r := by
  have a0 := hA.2.2.2.2.1
  have a1 := hA.2.2.2.2.2.1
  have a2 := hA.2.2.2.2.2.2
  rw [hr, hs, hD.lead hb (by omega), e]
  exact Gd.inner hA (hO.1 i hi.1 hi.2) hl.1 hl.2
theorem Gd.th {N : Mem} {A : Int → Int} {b i j r : Int} (hO : RP N A b) (hi : 0 ≤ i ∧ i < N 163 45) (hj : 0 ≤ j ∧ j < N 163 45) (hr : r = thnZ (N 187 i) (N 187 j) 9) : Gd A b r := by
  rw [hr]; exact Gd.thn (hO.1 i hi.1 hi.2) (hO.1 j hj.1 hj.2)
theorem AOK.of {M : Mem} (hI : Inv true M) (hY : YY M) {b : Int} (hb : 0 ≤ b ∧ b ≤ 1) : AOK (M 164) b := by
  have f3 := at_n 3 0 (by omega)
  have f0 := at_n 0 0 (by omega)
  have f1 := at_n 1 0 (by omega)
  have f2 := at_n 2 0 (by omega)
  have fb := at_a (100 + 85 * b) 0 b 0 (by omega) hb (by decide)
  exact ⟨AR_of hI, hY 0 (by omega) (by omega), Inv.g hI kd_164 rfl _ (a := 0) (b := 2) f3.1 f3.2, (Inv.g hI kd_164 rfl _ (a := 0) (b := 3) fb.1 fb.2).2, Inv.g hI kd_164 rfl _ (a := 0) (b := 2) f0.1 f0.2, Inv.g hI kd_164 rfl _ (a := 0) (b := 2) f1.1 f1.2, Inv.g hI kd_164 rfl _ (a := 0) (b := 2) f2.1 f2.2⟩
def NQ (M : Mem) (v k : Int) : Prop := ∀ i, 0 ≤ i → i < k → ¬ M 187 i = v
theorem NQ.step {M : Mem} {v k k' : Int} (h : NQ M v k) (hk : ¬ M 187 k = v) (e : k' = k + 1) : NQ M v k' := by
  subst e
  intro i h0 h1
  by_cases c : i = k
  · subst c; exact hk
  · exact h i h0 (by omega)

