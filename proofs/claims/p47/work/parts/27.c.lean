/-! words that are read: letters, and what lies below -/
def WT (M : Mem) (t n : Int) : Prop := ∀ i, 0 ≤ i → i < n → 0 ≤ M 168 (60 * t + i) ∧ M 168 (60 * t + i) ≤ M 164 0 + M 164 1 + M 164 2 - 1
theorem WT.fr {L : List (Nat × Int)} {M N : Mem} {t n : Int} (h : WT M t n) (hF : Fr L M N) (h1 : L.all (fun p => !(p.1 == 69)) = true) (h2 : L.all (fun p => !(p.1 == 65)) = true) : WT N t n := by
  have q1 : ∀ i, N 168 i = M 168 i := fun i => hF.e kd_168 i (fin_no h1)
  have q2 : ∀ i, N 164 i = M 164 i := fun i => hF.e kd_164 i (fin_no h2)
  intro i h0 h3
  rw [q1, q2, q2, q2]; exact h i h0 h3
def WB (M : Mem) (n : Int) : Prop := M 174 0 = -1 ∧ ∀ j, 0 ≤ j → j < n → M 175 j ≤ 5 ∧ M 174 (j + 1) ≤ j
theorem WB.bel {M : Mem} {n : Int} (h : WB M n) (m : Int) (hm : 0 ≤ m ∧ m ≤ n) : M 174 m ≤ m - 1 := by
  by_cases h0 : m = 0
  · subst h0; have := h.1; omega
  · have := (h.2 (m - 1) (by omega) (by omega)).2
    rw [show m - 1 + 1 = m by omega] at this; exact this
theorem WB.let {M : Mem} {n : Int} (h : WB M n) (m : Int) (hm : 0 ≤ m ∧ m < n) : M 175 m ≤ 5 := (h.2 m hm.1 hm.2).1
theorem WB.mono {M : Mem} {n m : Int} (h : WB M n) (hm : m ≤ n) : WB M m := ⟨h.1, fun j h0 h1 => h.2 j h0 (by omega)⟩
theorem WB.step {M N : Mem} {n : Int} (h : WB M n) (hn : 0 ≤ n) (h1 : ∀ j, ¬ j = n → N 175 j = M 175 j) (h2 : N 175 n ≤ 5) (h3 : ∀ j, ¬ j = n + 1 → N 174 j = M 174 j) (h4 : N 174 (n + 1) ≤ n) : WB N (n + 1) := by
  refine ⟨by rw [h3 0 (by omega)]; exact h.1, fun j h0 h5 => ?_⟩
  by_cases hj : j = n
  · subst hj; exact ⟨h2, h4⟩
  · rw [h1 j hj, h3 (j + 1) (by omega)]; exact h.2 j h0 (by omega)
theorem WB.fr {L : List (Nat × Int)} {M N : Mem} {n : Int} (h : WB M n) (hF : Fr L M N) (h1 : L.all (fun p => !(p.1 == 75)) = true) (h2 : L.all (fun p => !(p.1 == 76)) = true) : WB N n := by
  have q1 : ∀ i, N 174 i = M 174 i := fun i => hF.e kd_174 i (fin_no h1)
  have q2 : ∀ i, N 175 i = M 175 i := fun i => hF.e kd_175 i (fin_no h2)
  refine ⟨by rw [q1]; exact h.1, fun j h0 h3 => ?_⟩
  rw [q1, q2]; exact h.2 j h0 h3
theorem WB.nil {M : Mem} (h : M 174 0 = -1) : WB M 0 := ⟨h, fun j h0 h1 => absurd h0 (by omega)⟩
theorem WB.st {M N : Mem} {n c i v : Int} {k : Nat} (h : WB M n) (hM : N = mu M c i v) (hk : kd c = k) (h1 : (75 == k) = false) (h2 : (76 == k) = false) : WB N n := by
  have q1 : ∀ j, N 174 j = M 174 j := fun j => by rw [hM, mu_k kd_174 hk h1]
  have q2 : ∀ j, N 175 j = M 175 j := fun j => by rw [hM, mu_k kd_175 hk h2]
  refine ⟨by rw [q1]; exact h.1, fun j h0 h3 => ?_⟩
  rw [q1, q2]; exact h.2 j h0 h3
/-! the words of so many letters, one after the other -/
def odt (t : Int → Int) (L lev j w : Int) : Int := if j ≤ lev then (L - 1 - t j) * w else 0
def odm (t : Int → Int) (L lev : Int) : Int := odt t L lev 0 32768 + odt t L lev 1 4096 + odt t L lev 2 512 + odt t L lev 3 64 + odt t L lev 4 8 + odt t L lev 5 1 + lev + 1
def TR (M : Mem) (lev L : Int) : Prop := ∀ j, 0 ≤ j → j ≤ lev → M 193 j < L
theorem odt_in {t : Int → Int} {L lev j w : Int} (h : j ≤ lev) : odt t L lev j w = (L - 1 - t j) * w := if_pos h
theorem odt_out {t : Int → Int} {L lev j w : Int} (h : ¬ j ≤ lev) : odt t L lev j w = 0 := if_neg h
theorem odm_pop {t u : Int → Int} {L lev : Int} (hl : 0 ≤ lev ∧ lev ≤ 5) (h : ∀ j, j < lev → u j = t j) (ht : t lev = L - 1) : odm u L (lev - 1) < odm t L lev := by
  unfold odm odt
  rcases (by omega : lev = 0 ∨ lev = 1 ∨ lev = 2 ∨ lev = 3 ∨ lev = 4 ∨ lev = 5) with e | e | e | e | e | e <;> subst e
  · simp; omega
  · simp [h 0 (by decide)]; omega
  · simp [h 0 (by decide), h 1 (by decide)]; omega
  · simp [h 0 (by decide), h 1 (by decide), h 2 (by decide)]; omega
  · simp [h 0 (by decide), h 1 (by decide), h 2 (by decide), h 3 (by decide)]; omega
  · simp [h 0 (by decide), h 1 (by decide), h 2 (by decide), h 3 (by decide), h 4 (by decide)]; omega
theorem odm_stay {t u : Int → Int} {L lev : Int} (hl : 0 ≤ lev ∧ lev ≤ 5) (h : ∀ j, j < lev → u j = t j) (ht : u lev = t lev + 1) : odm u L lev < odm t L lev := by
  unfold odm odt
  rcases (by omega : lev = 0 ∨ lev = 1 ∨ lev = 2 ∨ lev = 3 ∨ lev = 4 ∨ lev = 5) with e | e | e | e | e | e <;> subst e
  · simp; omega
  · simp [h 0 (by decide)]; omega
  · simp [h 0 (by decide), h 1 (by decide)]; omega
  · simp [h 0 (by decide), h 1 (by decide), h 2 (by decide)]; omega
  · simp [h 0 (by decide), h 1 (by decide), h 2 (by decide), h 3 (by decide)]; omega
  · simp [h 0 (by decide), h 1 (by decide), h 2 (by decide), h 3 (by decide), h 4 (by decide)]; omega
theorem odm_push {t u : Int → Int} {L lev : Int} (hl : 0 ≤ lev ∧ lev ≤ 4) (hL : L ≤ 6) (h : ∀ j, j < lev → u j = t j) (ht : u lev = t lev + 1) (hp : u (lev + 1) = -1) : odm u L (lev + 1) < odm t L lev := by
  unfold odm odt
  rcases (by omega : lev = 0 ∨ lev = 1 ∨ lev = 2 ∨ lev = 3 ∨ lev = 4) with e | e | e | e | e <;> subst e
  · simp at hp; simp; omega
  · simp at hp; simp [h 0 (by decide)]; omega
  · simp at hp; simp [h 0 (by decide), h 1 (by decide)]; omega
  · simp at hp; simp [h 0 (by decide), h 1 (by decide), h 2 (by decide)]; omega
  · simp at hp; simp [h 0 (by decide), h 1 (by decide), h 2 (by decide), h 3 (by decide)]; omega
theorem TR.to {M N : Mem} {a b L : Int} (h : TR M a L) (h1 : ∀ j, j < a → N 193 j = M 193 j) (h2 : N 193 a < L) (h3 : b = a - 1 ∨ b = a ∨ (b = a + 1 ∧ N 193 b < L)) : TR N b L := by
  intro j h0 hj
  by_cases e : j < a
  · rw [h1 j e]; exact h j h0 (by omega)
  · by_cases e2 : j = a
    · rw [e2]; exact h2
    · rcases h3 with h3 | h3 | h3
      · omega
      · omega
      · rw [show j = b by omega]; exact h3.2
theorem TR.pop {M N : Mem} {a L : Int} (h : TR M a L) (h1 : ∀ j, j < a → N 193 j = M 193 j) : TR N (a - 1) L := fun j h0 hj => by rw [h1 j (by omega)]; exact h j h0 (by omega)
theorem TR.nil {M : Mem} {L : Int} (h : M 193 0 < L) : TR M 0 L := fun j h0 hj => by rw [show j = 0 by omega]; exact h
def TQ (N P : Mem) (x : Int) : Prop := (∀ j, j < x → N 193 j = P 193 j) ∧ N 193 x = P 193 x + 1

