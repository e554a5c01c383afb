/-! the relations that are found stay few -/
def RP (M : Mem) (A : Int → Int) (b : Int) : Prop := RO A b M
theorem RP.new {M N : Mem} {A : Int → Int} {b v m : Int} (h : RP M A b) (hg : Gd A b v) (hm : m = M 163 45) (hn : ∀ i, 0 ≤ i → i < m → ¬ M 187 i = v) (h1 : N 163 45 = m + 1) (h2 : ∀ j, ¬ j = m → N 187 j = M 187 j) (h3 : N 187 m = v) : RP N A b := by
  refine ⟨fun i h0 hi => ?_, fun i j h0 hi hj => ?_⟩
  · by_cases e : i = m
    · subst e; rw [h3]; exact hg
    · rw [h2 i e]; exact h.1 i h0 (by omega)
  · rw [h2 i (by omega)]
    by_cases e : j = m
    · subst e; rw [h3]; exact hn i h0 hi
    · rw [h2 j e]; exact h.2 i j h0 hi (by omega)
theorem RP.eq {M N : Mem} {A : Int → Int} {b : Int} (h : RP M A b) (h1 : N 163 45 = M 163 45) (h2 : ∀ j, N 187 j = M 187 j) : RP N A b := ⟨fun i h0 hi => by rw [h2]; exact h.1 i h0 (by omega), fun i j h0 hi hj => by rw [h2, h2]; exact h.2 i j h0 hi (by omega)⟩
theorem RP.fr {L : List (Nat × Int)} {M N : Mem} {A : Int → Int} {b : Int} (h : RP M A b) (hF : Fr L M N) (h1 : fin L 64 45 = false) (h2 : L.all (fun p => !(p.1 == 86)) = true) : RP N A b := h.eq (hF.e kd_163 45 h1) (fun j => hF.e kd_187 j (fin_no h2))
theorem RP.le {M : Mem} {A : Int → Int} {b : Int} (h : RP M A b) (hA : AOK A b) (hc : Clo A b) : M 163 45 ≤ 40 := RO.le h hA hc
theorem AOK.of {M : Mem} (hI : Inv true M) (hY : YY M) {b : Int} (hb : 0 ≤ b ∧ b ≤ 1) : AOK (M 164) b := by
  have f3 := at_n 3 0 (by omega)
  have f0 := at_n 0 0 (by omega)
  have f1 := at_n 1 0 (by omega)
  have f2 := at_n 2 0 (by omega)
  have fb := at_a (100 + 85 * b) 0 b 0 (by omega) hb (by decide)
  exact ⟨AR_of hI, hY 0 (by omega) (by omega), Inv.g hI kd_164 rfl _ (a := 0) (b := 2) f3.1 f3.2, (Inv.g hI kd_164 rfl _ (a := 0) (b := 3) fb.1 fb.2).2, Inv.g hI kd_164 rfl _ (a := 0) (b := 2) f0.1 f0.2, Inv.g hI kd_164 rfl _ (a := 0) (b := 2) f1.1 f1.2, Inv.g hI kd_164 rfl _ (a := 0) (b := 2) f2.1 f2.2⟩
