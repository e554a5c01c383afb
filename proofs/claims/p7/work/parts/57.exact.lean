/-! what a store leaves of one array -/
def UP (M N : Mem) (c a v : Int) : Prop := ∀ j, N c j = if j = a then v else M c j
theorem fin_nk {L : List (Nat × Int)} {k : Nat} (h : L.all (fun p => !(p.1 == k)) = true) (j : Int) : fin L k j = false := by
  cases hx : fin L k j with
  | false => rfl
  | true =>
    unfold fin at hx
    obtain ⟨p, hp, h1⟩ := List.any_eq_true.mp hx
    have h2 := List.all_eq_true.mp h p hp
    simp only [Bool.and_eq_true] at h1
    rw [h1.1] at h2
    cases h2
theorem Fr.fn {L : List (Nat × Int)} {M N : Mem} (h : Fr L M N) {c : Int} {k : Nat} (hc : kd c = k) (hL : L.all (fun p => !(p.1 == k)) = true) : N c = M c := funext (fun j => h.e hc j (fin_nk hL j))
theorem UP.fr {L : List (Nat × Int)} {M N N' : Mem} {c a v : Int} {k : Nat} (h : UP M N c a v) (hF : Fr L N N') (hc : kd c = k) (hL : L.all (fun p => !(p.1 == k)) = true) : UP M N' c a v := fun j => by rw [hF.fn hc hL]; exact h j
/-! what a pouring asks for -/
def PK (a1 a2 a3 a4 a5 p1 p3 s1 s3 : Int) : Prop := 0 ≤ a1 ∧ a1 ≤ 3 ∧ 0 ≤ a3 ∧ a3 ≤ 3 ∧ 0 ≤ a2 ∧ 0 ≤ a4 ∧ 0 ≤ a5 ∧ 0 ≤ p1 ∧ 0 ≤ p3 ∧ p1 ≤ 60 ∧ p3 ≤ 60 ∧ s1 = s3 ∧ a2 + a5 ≤ p1 ∧ a4 + a5 ≤ p3
def PRr (r a1 a2 a3 a4 a5 p1 p3 s1 s3 : Int) : Prop := (r = 0 ∧ PK a1 a2 a3 a4 a5 p1 p3 s1 s3) ∨ (r ≠ 0 ∧ ¬ PK a1 a2 a3 a4 a5 p1 p3 s1 s3)
def PPr (r a1 a2 a3 a4 a5 p1 p3 s1 s3 : Int) : Prop := (r = 1 ∧ PK a1 a2 a3 a4 a5 p1 p3 s1 s3) ∨ (r = 0 ∧ ¬ PK a1 a2 a3 a4 a5 p1 p3 s1 s3)
theorem PRr.k {r a1 a2 a3 a4 a5 p1 p3 s1 s3 : Int} (h : PRr r a1 a2 a3 a4 a5 p1 p3 s1 s3) (hr : r = 0) : 0 ≤ a1 ∧ a1 ≤ 3 ∧ 0 ≤ a3 ∧ a3 ≤ 3 ∧ 0 ≤ a2 ∧ 0 ≤ a4 ∧ 0 ≤ a5 ∧ 0 ≤ p1 ∧ 0 ≤ p3 ∧ p1 ≤ 60 ∧ p3 ≤ 60 ∧ s1 = s3 ∧ a2 + a5 ≤ p1 ∧ a4 + a5 ≤ p3 := by
  rcases h with h | h
  · exact h.2
  · exact absurd hr h.1
theorem PRr.n {r a1 a2 a3 a4 a5 p1 p3 s1 s3 : Int} (h : PRr r a1 a2 a3 a4 a5 p1 p3 s1 s3) (hr : r ≠ 0) : PPr 0 a1 a2 a3 a4 a5 p1 p3 s1 s3 := by
  rcases h with h | h
  · exact absurd h.1 hr
  · exact Or.inr ⟨rfl, h.2⟩
theorem PPr.u {r r' a1 a2 a3 a4 a5 p1 p3 s1 s3 : Int} (h : PPr r a1 a2 a3 a4 a5 p1 p3 s1 s3) (h' : PPr r' a1 a2 a3 a4 a5 p1 p3 s1 s3) : r = r' := by
  rcases h with h | h <;> rcases h' with h' | h'
  · rw [h.1, h'.1]
  · exact absurd h.2 h'.2
  · exact absurd h'.2 h.2
  · rw [h.1, h'.1]
theorem UP.eq {M N M' N' : Mem} {c d a v : Int} (h : UP M M' c a v) (h' : UP N N' d a v) (e : M c = N d) : M' c = N' d := funext (fun j => by rw [h j, h' j, e])
