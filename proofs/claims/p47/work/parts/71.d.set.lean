
/-- a row of an array moved down by one, so far -/
def zSH (N M : Mem) (c k i : Int) : Prop := ∀ j, N c j = if k ≤ j ∧ j < i then M c (j + 1) else M c j
theorem zSH.nil {M : Mem} {c k : Int} : zSH M M c k k := fun j => by rw [if_neg (by omega)]
theorem zSH.step {N N' M : Mem} {c k i v i' : Int} (h : zSH N M c k i) (u : UP N N' c i v) (hv : v = N c (i + 1)) (hk : k ≤ i) (hi : i' = i + 1) : zSH N' M c k i' := fun j => by
  subst hi
  rw [u j]
  by_cases e : j = i
  · subst e; rw [if_pos rfl, if_pos (by omega), hv, h (j + 1), if_neg (by omega)]
  · rw [if_neg e, h j]
    by_cases z : k ≤ j ∧ j < i
    · rw [if_pos z, if_pos (by omega)]
    · rw [if_neg z, if_neg (by omega)]
theorem zQV.u {q : Int → Int} (h : zQV q) : 0 ≤ q 3 ∧ q 3 ≤ 2 ∧ 0 ≤ q 104 ∧ q 104 ≤ 20 ∧ 0 ≤ q 189 ∧ q 189 ≤ 20 := h
theorem zSH.end {N N' M : Mem} {c k i n : Int} (h : zSH N M c k i) (e : N' c = N c) (hi : n - 1 ≤ i) : ∀ j, 0 ≤ j → j < n - 1 → N' c j = if k ≤ j then M c (j + 1) else M c j := fun j h0 h1 => by
  rw [e, h j]
  by_cases z : k ≤ j
  · rw [if_pos (by omega), if_pos z]
  · rw [if_neg (by omega), if_neg z]
theorem zdrop_4 (q : Int → Int) (b k : Int) : zdrop q b k (b + 4) = q (b + 4) - 1 := by unfold zdrop; rw [if_pos rfl]
theorem uprul_4 (q : Int → Int) (b l p r g : Int) : uprul q b l p r g (b + 4) = q (b + 4) + 1 := by unfold uprul; rw [if_pos rfl]
theorem uprul_x {q : Int → Int} {b l p r g i : Int} (h0 : 0 ≤ q (b + 4)) (h : i < b ∨ b + 9 + 4 * q (b + 4) ≤ i) : uprul q b l p r g i = q i := by
  unfold uprul; rw [if_neg (by omega), if_neg (by omega), if_neg (by omega), if_neg (by omega), if_neg (by omega)]
/-- one of the two sets of an automaton is put -/
theorem AT.put {M N : Mem} {x b i v w : Int} {q : Int → Int} (h : AT M x q b) (hi : i = 2 ∨ i = 3) (hb : 0 < b) (hI : Inv false M) (hk : kd x = 1) (hN : N = mu M x i v) (hv : v = w) : AT N x (upk q (b + i) w) b := by
  subst hv
  have k6 := Inv.r hI hk rfl 6 rfl rfl
  have k7 := Inv.r hI hk rfl 7 rfl rfl
  have k8 := Inv.r hI hk rfl 8 rfl rfl
  have k9 := Inv.r hI hk rfl 9 rfl rfl
  have k10 := Inv.r hI hk rfl 10 rfl rfl
  have k11 := Inv.r hI hk rfl 11 rfl rfl
  have f : ∀ c k, kd c = k → (k == 1) = false → N c = M c := fun c k hc hn => funext (fun j => by rw [hN, mu_k hc hk hn])
  refine AT.set h hb hi (fun k h0 h5 hn => by rw [hN, mu_i (by omega)]) (by rw [hN, mu_s]) ?_ ?_ ?_ ?_ (f _ _ k6 rfl) (f _ _ k7 rfl) (f _ _ k8 rfl) (f _ _ k9 rfl) ?_ ?_ (f _ _ k10 rfl) (f _ _ k11 rfl)
  · rw [hN, mu_i (by omega)]
  · rw [hN, mu_i (by omega)]
  · rw [hN, mu_i (by omega)]
  · rw [hN, mu_i (by omega)]
  · rw [hN, mu_i (by omega)]
  · rw [hN, mu_i (by omega)]
