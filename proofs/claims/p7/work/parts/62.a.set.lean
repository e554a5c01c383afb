/-! the checker that is read: numbers, names, automata -/
def upk (q : Int → Int) (k v : Int) : Int → Int := fun i => if i = k then v else q i
theorem upk_s (q : Int → Int) (k v : Int) : upk q k v k = v := if_pos rfl
theorem upk_o {q : Int → Int} {k v i : Int} (h : i ≠ k) : upk q k v i = q i := if_neg h
theorem NU.up {M N : Mem} {c a s0 v10 v11 j1 : Int} {B t q : Int → Int} (h : NU M c B t q) (ha : 0 ≤ a ∧ a ≤ 2) (hq : 0 ≤ q a ∧ q a ≤ 1) (hs : s0 = 2 * a + q a) (e10 : N c 10 = M c 10) (e11 : N c 11 = M c 11) (u10 : UP M N (M c 10) s0 v10) (u11 : UP M N (M c 11) s0 v11) (h10 : v10 = tp B j1) (h11 : v11 = tq B j1 - tp B j1) (hn : nmt B j1) : NU N c B (upk t (2 * a + q a) j1) (upk q a (q a + 1)) := fun s h0 h5 hu => by
  rw [e10, e11, u10 s, u11 s]
  by_cases e : s = 2 * a + q a
  · subst e
    rw [if_pos hs.symm, if_pos hs.symm, upk_s]
    exact ⟨hn, h10, h11⟩
  · rw [if_neg (by omega), if_neg (by omega), upk_o e]
    refine h s h0 h5 ?_
    by_cases z : s / 2 = a
    · rw [z, upk_s] at hu
      rw [z]
      omega
    · rw [upk_o z] at hu
      exact hu
def CQ (M : Mem) (c : Int) (q : Int → Int) : Prop := M (M c 0) 0 = q 0 ∧ M (M c 0) 1 = q 0 + q 1 ∧ M (M c 0) 2 = q 0 + q 1 + q 2 ∧ M (M c 0) 3 = q 3 ∧ 0 ≤ q 0 ∧ q 0 ≤ 2 ∧ 0 ≤ q 1 ∧ q 1 ≤ 2 ∧ 0 ≤ q 2 ∧ q 2 ≤ 2 ∧ 0 ≤ q 3 ∧ q 3 ≤ 2
theorem CQ.up {M N : Mem} {c a : Int} {q : Int → Int} (h : CQ M c q) (hq : q a ≤ 1) (e0 : N c 0 = M c 0) (f0 : a = 0 ∧ N (M c 0) 0 = M (M c 0) 0 + 1 ∧ N (M c 0) 1 = M (M c 0) 1 + 1 ∧ N (M c 0) 2 = M (M c 0) 2 + 1 ∨ a = 1 ∧ N (M c 0) 0 = M (M c 0) 0 ∧ N (M c 0) 1 = M (M c 0) 1 + 1 ∧ N (M c 0) 2 = M (M c 0) 2 + 1 ∨ a = 2 ∧ N (M c 0) 0 = M (M c 0) 0 ∧ N (M c 0) 1 = M (M c 0) 1 ∧ N (M c 0) 2 = M (M c 0) 2 + 1) (f3 : N (M c 0) 3 = M (M c 0) 3) : CQ N c (upk q a (q a + 1)) := by
  unfold CQ at h ⊢
  rw [e0]
  rcases f0 with ⟨e, f⟩ | ⟨e, f⟩ | ⟨e, f⟩ <;> subst e
  · rw [upk_s, upk_o (show (1 : Int) ≠ 0 by decide), upk_o (show (2 : Int) ≠ 0 by decide), upk_o (show (3 : Int) ≠ 0 by decide)]; omega
  · rw [upk_s, upk_o (show (0 : Int) ≠ 1 by decide), upk_o (show (2 : Int) ≠ 1 by decide), upk_o (show (3 : Int) ≠ 1 by decide)]; omega
  · rw [upk_s, upk_o (show (0 : Int) ≠ 2 by decide), upk_o (show (1 : Int) ≠ 2 by decide), upk_o (show (3 : Int) ≠ 2 by decide)]; omega
/-- the cells of a setting's numbers and of one of its automata -/
def SL (m k : Int) : Int → Prop := fun x => x = m ∨ (m + 1 + 7 * k ≤ x ∧ x < m + 8 + 7 * k)
/-- an automaton's arrays are behind it -/
theorem AT.keep {M N : Mem} {S : Int → Prop} {x b : Int} {q : Int → Int} (h : AT M x q b) (hZ : FZ M) (hI : Inv false M) (hk : kd x = 1) (hC : Cf S M N) (hS : ∀ y, x ≤ y → y < x + 7 → ¬ S y) : AT N x q b := by
  have z := hZ.1 x hk
  have k6 := Inv.r hI hk rfl 6 rfl rfl
  have k7 := Inv.r hI hk rfl 7 rfl rfl
  have k8 := Inv.r hI hk rfl 8 rfl rfl
  have k9 := Inv.r hI hk rfl 9 rfl rfl
  have k10 := Inv.r hI hk rfl 10 rfl rfl
  have k11 := Inv.r hI hk rfl 11 rfl rfl
  exact AT.same h (hC x (by rw [hk]; rfl) (hS x (by omega) (by omega))) (hC _ (by rw [k6]; rfl) (hS _ (by omega) (by omega))) (hC _ (by rw [k7]; rfl) (hS _ (by omega) (by omega))) (hC _ (by rw [k8]; rfl) (hS _ (by omega) (by omega))) (hC _ (by rw [k9]; rfl) (hS _ (by omega) (by omega))) (hC _ (by rw [k10]; rfl) (hS _ (by omega) (by omega))) (hC _ (by rw [k11]; rfl) (hS _ (by omega) (by omega)))
/-- the automata of the checker that is read -/
def CA (M : Mem) (c : Int) (q : Int → Int) : Prop := (0 < q 3 → AT M (M (M c 0) 4) q 100) ∧ (1 < q 3 → AT M (M (M c 0) 5) q 185)
theorem CQ.cg {M N : Mem} {c : Int} {q q' : Int → Int} (h : CQ M c q) (e0 : N c 0 = M c 0) (f0 : N (M c 0) 0 = M (M c 0) 0) (f1 : N (M c 0) 1 = M (M c 0) 1) (f2 : N (M c 0) 2 = M (M c 0) 2) (f3 : N (M c 0) 3 = q' 3) (g0 : q' 0 = q 0) (g1 : q' 1 = q 1) (g2 : q' 2 = q 2) (g3 : 0 ≤ q' 3 ∧ q' 3 ≤ 2) : CQ N c q' := by
  unfold CQ at h ⊢
  rw [e0, f0, f1, f2, f3, g0, g1, g2]
  omega
theorem NU.cg {M : Mem} {c : Int} {B t q q' : Int → Int} (h : NU M c B t q) (g0 : q' 0 = q 0) (g1 : q' 1 = q 1) (g2 : q' 2 = q 2) : NU M c B t q' := fun s a b d => by
  refine h s a b ?_
  have e : s / 2 = 0 ∨ s / 2 = 1 ∨ s / 2 = 2 := by omega
  rcases e with e | e | e <;> rw [e] at d ⊢
  · rw [← g0]; exact d
  · rw [← g1]; exact d
  · rw [← g2]; exact d
/-- a new automaton -/
def uaut (q : Int → Int) (s g : Int) : Int → Int := upclr (upk q 3 (q 3 + 1)) (100 + 85 * q 3) s g
theorem uaut_o {q : Int → Int} {s g i : Int} (h : i ≠ 3) (h2 : i < 100 + 85 * q 3 ∨ 100 + 85 * q 3 + 5 ≤ i) : uaut q s g i = q i := by
  unfold uaut upclr
  rw [if_neg (by omega), if_neg (by omega), if_neg (by omega), upk_o h]
theorem uaut_3 {q : Int → Int} {s g : Int} (h : 0 ≤ q 3) : uaut q s g 3 = q 3 + 1 := by
  unfold uaut upclr
  rw [if_neg (by omega), if_neg (by omega), if_neg (by omega), upk_s]
theorem CA.new {M N : Mem} {c x s g : Int} {q : Int → Int} (h : CA M c q) (hQ : 0 ≤ q 3 ∧ q 3 ≤ 1) (hZ : FZ M) (hI : Inv false M) (hm : kd (M c 0) = 12) (hC : Cf (SL (M c 0) (q 3)) M N) (e0 : N c 0 = M c 0) (e4 : N (M c 0) 4 = M (M c 0) 4) (e5 : N (M c 0) 5 = M (M c 0) 5) (hx : q 3 = 0 ∧ x = M (M c 0) 4 ∨ q 3 = 1 ∧ x = M (M c 0) 5) (h0 : N x 0 = s) (h1 : N x 1 = g) (h2 : N x 2 = 0) (h3 : N x 3 = 0) (h4 : N x 4 = 0) (h5 : N x 5 = q 0) (hw : zAW N x 0) (hr : ∀ b, (b = 100 ∨ b = 185) → q (b + 4) ≤ 20 ∨ q 3 = 0) : CA N c (uaut q s g) := by
  have z := hZ.2.1 (M c 0) hm
  have u := uaut_3 (q := q) (s := s) (g := g) hQ.1
  have u0 : (upk q 3 (q 3 + 1)) 0 = q 0 := upk_o (by decide)
  have n : AT N x (uaut q s g) (100 + 85 * q 3) := AT.clr (by omega) h0 h1 h2 h3 h4 (by rw [u0]; exact h5) hw
  unfold CA
  rw [u, e0, e4, e5]
  rcases hx with ⟨e, ex⟩ | ⟨e, ex⟩
  · refine ⟨fun _ => ?_, fun a => by omega⟩
    rw [← ex]
    rw [e, Int.mul_zero, Int.add_zero] at n
    exact n
  · refine ⟨fun _ => ?_, fun _ => ?_⟩
    · have k4 := Inv.r hI hm rfl 4 rfl rfl
      refine AT.cg (AT.keep (h.1 (by omega)) hZ hI k4 hC (fun y a b d => ?_)) (uaut_o (by decide) (by omega)) (fun i a b => uaut_o (by omega) (by omega)) (by have := hr 100 (Or.inl rfl); omega)
      rcases d with d | d <;> omega
    · rw [← ex]
      rw [e] at n
      exact n
theorem zAW.fr {L : List (Nat × Int)} {M N : Mem} {x n : Int} (h : zAW M x n) (hI : Inv false M) (hk : kd x = 1) (hF : Fr L M N) (hL : L.all (fun p => !(IK p.1)) = true) : zAW N x n := by
  have g : ∀ y, IK (kd y) = true → N y = M y := fun y hy => (Cf.fr (Cf.rf (fun _ => False) M) hF hL) y hy (fun a => a)
  have e := g x (by rw [hk]; rfl)
  have f : ∀ i k, Inv false M → kd (M x i) = k → IK k = true → N (M x i) = M (M x i) := fun i k _ hk2 hy => g _ (by rw [hk2]; exact hy)
  exact h.cg (by rw [e]) (by rw [e]) (by rw [e]) (by rw [e]) (by rw [e]) (by rw [e]) (by rw [e]) (fun j _ _ => ⟨congrFun (f 6 2 hI (Inv.r hI hk rfl 6 rfl rfl) rfl) j, congrFun (f 7 3 hI (Inv.r hI hk rfl 7 rfl rfl) rfl) j, congrFun (f 8 4 hI (Inv.r hI hk rfl 8 rfl rfl) rfl) j, congrFun (f 9 5 hI (Inv.r hI hk rfl 9 rfl rfl) rfl) j⟩) (fun j => congrFun (f 10 6 hI (Inv.r hI hk rfl 10 rfl rfl) rfl) j) (fun j => congrFun (f 11 7 hI (Inv.r hI hk rfl 11 rfl rfl) rfl) j)
