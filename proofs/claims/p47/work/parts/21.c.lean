/-! the rows of the reference's one array, by place -/
theorem at_c (i s : Int) {o lo hi : Int} (h : i = 272 * s + o) (h2 : 0 ≤ o ∧ o < 272) (h3 : atlo o = lo) (h4 : athi o = hi) : atlo i = lo ∧ athi i = hi := by
  have e : atq i = atq o := by unfold atq; omega
  have e1 : atlo i = atlo o := by unfold atlo; rw [e]
  have e2 : athi i = athi o := by unfold athi; rw [e]
  rw [e1, e2]; exact ⟨h3, h4⟩
theorem at_q (i j : Int) (h : (i - j) % 272 = 0) : atlo i = atlo j ∧ athi i = athi j := by
  have e : atq i = atq j := by unfold atq; omega
  exact ⟨by unfold atlo; rw [e], by unfold athi; rw [e]⟩
theorem at_r_all : ∀ a : Nat, a < 2 → ∀ k : Nat, k < 20 → ∀ j : Nat, j < 4 → atlo (105 + 85 * (a : Int) + 4 * (k : Int) + (j : Int)) = (if (j : Int) = 3 then -1 else 0) ∧ athi (105 + 85 * (a : Int) + 4 * (k : Int) + (j : Int)) = (if (j : Int) = 0 then 5 else 2) := by decide +kernel
theorem at_r (i s a k j : Int) (h : i = 272 * s + 105 + 85 * a + 4 * k + j) (ha : 0 ≤ a ∧ a ≤ 1) (hk : 0 ≤ k ∧ k ≤ 19) (hj : 0 ≤ j ∧ j ≤ 3) : atlo i = (if j = 3 then -1 else 0) ∧ athi i = (if j = 0 then 5 else 2) := by
  have z := at_r_all a.toNat (by omega) k.toNat (by omega) j.toNat (by omega)
  rw [show ((a.toNat : Nat) : Int) = a by omega, show ((k.toNat : Nat) : Int) = k by omega, show ((j.toNat : Nat) : Int) = j by omega] at z
  have w := at_q i (105 + 85 * a + 4 * k + j) (by omega)
  rw [w.1, w.2]
  exact z
theorem at_a (i s a w : Int) (h : i = 272 * s + 100 + 85 * a + w) (ha : 0 ≤ a ∧ a ≤ 1) (hw : 0 ≤ w ∧ w ≤ 4) : atlo i = 0 ∧ athi i = (if w < 2 then 3 else if w < 4 then 7 else 20) := by
  have e : atq i = 100 + 85 * a + w := by unfold atq; omega
  have hp : (100 + 85 * a + w - 100) % 85 = w := by
    rcases (by omega : a = 0 ∨ a = 1) with rfl | rfl <;> omega
  constructor
  · unfold atlo
    simp only [e, hp]
    repeat' split
    all_goals omega
  · unfold athi
    simp only [e, hp]
    repeat' split
    all_goals omega
theorem at_b (i s k j : Int) (h : i = 272 * s + 10 + 3 * k + j) (hk : 0 ≤ k ∧ k ≤ 29) (hj : 0 ≤ j ∧ j ≤ 2) : atlo i = 0 ∧ athi i = (if j = 0 then 7 else if j = 1 then 511 else 5) := by
  have e : atq i = 10 + 3 * k + j := by unfold atq; omega
  constructor
  · unfold atlo
    simp only [e]
    repeat' split
    all_goals omega
  · unfold athi
    simp only [e]
    repeat' split
    all_goals omega
theorem at_n (i s : Int) (h : 272 * s ≤ i ∧ i ≤ 272 * s + 3) : atlo i = 0 ∧ athi i = 2 := by
  have e : atq i = i - 272 * s := by unfold atq; omega
  constructor
  · unfold atlo
    simp only [e]
    repeat' split
    all_goals omega
  · unfold athi
    simp only [e]
    repeat' split
    all_goals omega
theorem at_w (i : Int) : -2147483648 ≤ atlo i ∧ athi i ≤ 2147483647 := by
  constructor
  · unfold atlo
    simp only []
    repeat' split
    all_goals omega
  · unfold athi
    simp only []
    repeat' split
    all_goals omega
theorem at_0 (i : Int) : atlo i ≤ 0 ∧ 0 ≤ athi i := by
  constructor
  · unfold atlo
    simp only []
    repeat' split
    all_goals omega
  · unfold athi
    simp only []
    repeat' split
    all_goals omega
theorem at_4_all : ∀ a : Nat, a < 2 → ∀ d : Nat, d < 76 → atlo (105 + 85 * (a : Int) + (d : Int) + 4) = atlo (105 + 85 * (a : Int) + (d : Int)) ∧ athi (105 + 85 * (a : Int) + (d : Int) + 4) = athi (105 + 85 * (a : Int) + (d : Int)) := by decide +kernel
theorem at_4 (i a k : Int) (h : 105 + 85 * a ≤ i ∧ i < 181 + 85 * a) (ha : 0 ≤ a ∧ a ≤ 1) : atlo (i + 4) = atlo i ∧ athi (i + 4) = athi i := by
  have z := at_4_all a.toNat (by omega) (i - 105 - 85 * a).toNat (by omega)
  rw [show ((a.toNat : Nat) : Int) = a by omega, show (((i - 105 - 85 * a).toNat : Nat) : Int) = i - 105 - 85 * a by omega, show 105 + 85 * a + (i - 105 - 85 * a) = i by omega] at z
  exact z
theorem zshl_r {a b : Int} (A : Int) (n : Nat) (hn : n ≤ 30) (ha : 0 ≤ a ∧ a ≤ A) (hb : 0 ≤ b ∧ b ≤ n) (hA : A * (2 ^ n : Nat) ≤ 2147483647) : 0 ≤ zshl a b ∧ zshl a b ≤ A * (2 ^ n : Nat) := by
  have e : b = ((b.toNat : Nat) : Int) := by omega
  have h3 : (2 ^ b.toNat : Nat) ≤ 2 ^ n := Nat.pow_le_pow_right (by omega) (by omega)
  have h5 : 0 < (2 ^ b.toNat : Nat) := Nat.two_pow_pos _
  have h6 : a * ((2 ^ b.toNat : Nat) : Int) ≤ A * ((2 ^ n : Nat) : Int) := Int.mul_le_mul ha.2 (by omega) (by omega) (by omega)
  have h7 : 0 ≤ a * ((2 ^ b.toNat : Nat) : Int) := Int.mul_nonneg ha.1 (by omega)
  rw [e, zshl_c b.toNat (by omega) ⟨ha.1, by omega⟩]
  exact ⟨h7, h6⟩
theorem fin_no {L : List (Nat × Int)} {k : Nat} {i : Int} (h : L.all (fun p => !(p.1 == k)) = true) : fin L k i = false := by
  unfold fin
  apply List.any_eq_false.mpr
  intro p hp
  have := List.all_eq_true.mp h p hp
  simp at this
  simp [this]
/-! the cells of the reference, each by its number -/
def uqd (k n : Nat) : Bool := (List.range 194).all (fun j => !(kdl.getD j 0 == k) || j == n)
theorem uq_g {k n : Nat} (h : uqd k n = true) (hk : (k == 0) = false) {c : Int} (hc : kd c = k) : c = (n : Int) := by
  have hl := kd_lt (c := c) (by rw [hc]; simpa using hk)
  have h1 := List.all_eq_true.mp h c.toNat (List.mem_range.mpr (by omega))
  have h2 : kdl.getD c.toNat 0 = k := by
    have : kd c = kdl.getD c.toNat 0 := by unfold kd; rw [if_neg (by omega)]
    rw [← this]; exact hc
  rw [h2] at h1
  simp at h1
  omega
theorem kd_163 : kd 163 = 64 := by decide +kernel
theorem kd_164 : kd 164 = 65 := by decide +kernel
theorem uq_164 {c : Int} (h : kd c = 65) : c = 164 := uq_g (n := 164) (by decide +kernel) rfl h
theorem kd_165 : kd 165 = 66 := by decide +kernel
theorem uq_165 {c : Int} (h : kd c = 66) : c = 165 := uq_g (n := 165) (by decide +kernel) rfl h
theorem kd_166 : kd 166 = 67 := by decide +kernel
theorem uq_166 {c : Int} (h : kd c = 67) : c = 166 := uq_g (n := 166) (by decide +kernel) rfl h
theorem kd_167 : kd 167 = 68 := by decide +kernel
theorem uq_167 {c : Int} (h : kd c = 68) : c = 167 := uq_g (n := 167) (by decide +kernel) rfl h
theorem kd_168 : kd 168 = 69 := by decide +kernel
theorem uq_168 {c : Int} (h : kd c = 69) : c = 168 := uq_g (n := 168) (by decide +kernel) rfl h
theorem kd_169 : kd 169 = 70 := by decide +kernel
theorem uq_169 {c : Int} (h : kd c = 70) : c = 169 := uq_g (n := 169) (by decide +kernel) rfl h
theorem kd_170 : kd 170 = 71 := by decide +kernel
theorem uq_170 {c : Int} (h : kd c = 71) : c = 170 := uq_g (n := 170) (by decide +kernel) rfl h
theorem kd_171 : kd 171 = 72 := by decide +kernel
theorem uq_171 {c : Int} (h : kd c = 72) : c = 171 := uq_g (n := 171) (by decide +kernel) rfl h
theorem kd_172 : kd 172 = 73 := by decide +kernel
theorem uq_172 {c : Int} (h : kd c = 73) : c = 172 := uq_g (n := 172) (by decide +kernel) rfl h
theorem kd_173 : kd 173 = 74 := by decide +kernel
theorem uq_173 {c : Int} (h : kd c = 74) : c = 173 := uq_g (n := 173) (by decide +kernel) rfl h
theorem kd_174 : kd 174 = 75 := by decide +kernel
theorem uq_174 {c : Int} (h : kd c = 75) : c = 174 := uq_g (n := 174) (by decide +kernel) rfl h
theorem kd_175 : kd 175 = 76 := by decide +kernel
theorem uq_175 {c : Int} (h : kd c = 76) : c = 175 := uq_g (n := 175) (by decide +kernel) rfl h
theorem kd_176 : kd 176 = 77 := by decide +kernel
theorem uq_176 {c : Int} (h : kd c = 77) : c = 176 := uq_g (n := 176) (by decide +kernel) rfl h
theorem kd_177 : kd 177 = 78 := by decide +kernel
theorem uq_177 {c : Int} (h : kd c = 78) : c = 177 := uq_g (n := 177) (by decide +kernel) rfl h
theorem kd_180 : kd 180 = 80 := by decide +kernel
theorem uq_180 {c : Int} (h : kd c = 80) : c = 180 := uq_g (n := 180) (by decide +kernel) rfl h
theorem kd_181 : kd 181 = 81 := by decide +kernel
theorem uq_181 {c : Int} (h : kd c = 81) : c = 181 := uq_g (n := 181) (by decide +kernel) rfl h
theorem kd_182 : kd 182 = 82 := by decide +kernel
theorem uq_182 {c : Int} (h : kd c = 82) : c = 182 := uq_g (n := 182) (by decide +kernel) rfl h
theorem kd_183 : kd 183 = 83 := by decide +kernel
theorem uq_183 {c : Int} (h : kd c = 83) : c = 183 := uq_g (n := 183) (by decide +kernel) rfl h
theorem kd_184 : kd 184 = 84 := by decide +kernel
theorem uq_184 {c : Int} (h : kd c = 84) : c = 184 := uq_g (n := 184) (by decide +kernel) rfl h
theorem kd_187 : kd 187 = 86 := by decide +kernel
theorem uq_187 {c : Int} (h : kd c = 86) : c = 187 := uq_g (n := 187) (by decide +kernel) rfl h
theorem kd_192 : kd 192 = 89 := by decide +kernel
theorem uq_192 {c : Int} (h : kd c = 89) : c = 192 := uq_g (n := 192) (by decide +kernel) rfl h
theorem kd_193 : kd 193 = 90 := by decide +kernel
theorem uq_193 {c : Int} (h : kd c = 90) : c = 193 := uq_g (n := 193) (by decide +kernel) rfl h
/-! what the cells of a kind hold in all -/
def sm (f : Int → Int) : Nat → Int
  | 0 => 0
  | n + 1 => sm f n + f n
theorem sm_one {f g : Int → Int} {a : Int} (h : ∀ j, j ≠ a → g j = f j) (n : Nat) : sm g n = sm f n + (if 0 ≤ a ∧ a < n then g a - f a else 0) := by
  induction n with
  | zero => rw [if_neg (by omega)]; rfl
  | succ n ih =>
    show sm g n + g n = sm f n + f n + _
    rw [ih]
    by_cases hn : (n : Int) = a
    · rw [if_neg (by omega), if_pos (by omega), hn]; omega
    · rw [h n hn]
      by_cases h2 : 0 ≤ a ∧ a < (n : Int)
      · rw [if_pos h2, if_pos (by omega)]; omega
      · rw [if_neg h2, if_neg (by omega)]; omega
theorem sm_eq {f g : Int → Int} (h : ∀ j, g j = f j) (n : Nat) : sm g n = sm f n := by rw [show g = f from funext h]
theorem sm_nn {f : Int → Int} (h : ∀ j, 0 ≤ f j) (n : Nat) : 0 ≤ sm f n := by
  induction n with
  | zero => exact Int.le_refl 0
  | succ n ih => have := h n; show 0 ≤ sm f n + f n; omega
def totf (k n : Nat) (M : Mem) (j : Int) : Int := if kd (163 + j) = k then sm (M (163 + j)) n else 0
def tot (k n : Nat) (M : Mem) : Int := sm (totf k n M) 31
theorem kd_ref {c : Int} {k : Nat} (hk : kd c = k) (hw : kW true k = true) : 163 ≤ c ∧ c < 194 := by
  have h0 : ¬ kd c = 0 := by
    rw [hk]; rintro rfl
    simp [kW] at hw
  have hl := kd_lt h0
  have h4 : kdl.getD c.toNat 0 = k := by
    rw [← hk]; unfold kd; rw [if_neg (by omega)]
  have h3 := (kW_all c.toNat (by omega)).2 (by rw [h4]; exact hw)
  omega
theorem tot_u {k n : Nat} {M N : Mem} {c i v : Int} (hM : N = mu M c i v) (hk : kd c = k) (hi : 0 ≤ i ∧ i < n) (hw : kW true k = true := by rfl) : tot k n N = tot k n M + v - M c i := by
  subst hM
  have hc := kd_ref hk hw
  have e := sm_one (f := totf k n M) (g := totf k n (mu M c i v)) (a := c - 163) (fun j hj => by
    unfold totf
    split
    · exact sm_eq (fun x => mu_c (by omega)) n
    · rfl) 31
  rw [if_pos (by omega)] at e
  have e2 : totf k n (mu M c i v) (c - 163) = sm (mu M c i v c) n := by
    unfold totf; rw [show 163 + (c - 163) = c by omega, if_pos hk]
  have e3 : totf k n M (c - 163) = sm (M c) n := by
    unfold totf; rw [show 163 + (c - 163) = c by omega, if_pos hk]
  have e4 := sm_one (f := M c) (g := mu M c i v c) (a := i) (fun j hj => mu_i hj) n
  rw [if_pos hi, mu_s] at e4
  unfold tot
  rw [e, e2, e3, e4]; omega
theorem tot_n (k n : Nat) {k' : Nat} {M N : Mem} {c i v : Int} (hM : N = mu M c i v) (hk : kd c = k') (hne : (k == k') = false) : tot k n N = tot k n M := by
  subst hM
  unfold tot
  refine sm_eq (fun j => ?_) 31
  unfold totf
  split
  · rename_i h
    exact sm_eq (fun x => mu_k h hk hne) n
  · rfl
theorem tot_fr (k n : Nat) {L : List (Nat × Int)} {M N : Mem} (hF : Fr L M N) (hL : L.all (fun p => !(p.1 == k)) = true) : tot k n N = tot k n M := by
  unfold tot
  refine sm_eq (fun j => ?_) 31
  unfold totf
  split
  · rename_i h
    refine sm_eq (fun x => hF.e h x ?_) n
    unfold fin
    apply List.any_eq_false.mpr
    intro p hp
    have := List.all_eq_true.mp hL p hp
    simp at this
    simp [this]
  · rfl
theorem tot_nn {k : Nat} (n : Nat) {M : Mem} (hI : Inv true M) (hw : kW true k = true) (h0 : ∀ i, rlo k i = 0) : 0 ≤ tot k n M := by
  refine sm_nn (fun j => ?_) 31
  unfold totf
  split
  · rename_i h
    refine sm_nn (fun x => ?_) n
    have := (hI (163 + j) x (by rw [h]; exact hw)).1
    rw [h, h0] at this
    exact this.1
  · exact Int.le_refl 0
theorem zor_ge {a b : Int} (ha : 0 ≤ a ∧ a ≤ 2147483647) (hb : 0 ≤ b ∧ b ≤ 2147483647) : a ≤ zor a b := by
  have h1 : (Int32.ofInt a ||| Int32.ofInt b).toBitVec.toNat = a.toNat ||| b.toNat := by
    rw [Int32.toBitVec_or, BitVec.toNat_or, zb_of ha, zb_of hb]
  have h3 : a.toNat ||| b.toNat < 2 ^ 31 := Nat.or_lt_two_pow (by omega) (by omega)
  have h2 := zb_nn (x := Int32.ofInt a ||| Int32.ofInt b) h1 (by omega)
  have h4 : a.toNat ≤ a.toNat ||| b.toNat := Nat.left_le_or
  unfold zor; omega

