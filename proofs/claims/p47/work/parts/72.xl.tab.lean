/-! the table of summaries, by a row -/
abbrev zT3 := Int × (Int → Int) × (Int → Int)
def zfnd (r s : Int → Int) (R S : Int) : Nat → Bool
  | 0 => false
  | n + 1 => zfnd r s R S n || (r (n : Int) == R && s (n : Int) == S)
theorem zfnd.cg {r s r' s' : Int → Int} {R S : Int} : ∀ n : Nat, (∀ k : Int, 0 ≤ k → k < n → r' k = r k ∧ s' k = s k) → zfnd r' s' R S n = zfnd r s R S n
  | 0, _ => rfl
  | n + 1, h => by
    obtain ⟨a, b⟩ := h n (by omega) (by omega)
    rw [zfnd, zfnd, zfnd.cg n (fun k k0 k1 => h k k0 (by omega)), a, b]
theorem zfnd.yes {r s : Int → Int} {R S : Int} : ∀ (n : Nat) (k : Int), 0 ≤ k → k < n → r k = R → s k = S → zfnd r s R S n = true
  | 0, k, a, b, _, _ => absurd b (by omega)
  | n + 1, k, a, b, c, d => by
    rw [zfnd]
    by_cases e : k = n
    · subst e
      rw [c, d]
      simp
    · rw [zfnd.yes n k a (by omega) c d]
      rfl
theorem zfnd.no {r s : Int → Int} {R S : Int} : ∀ n : Nat, (∀ k : Int, 0 ≤ k → k < n → ¬ (r k = R ∧ s k = S)) → zfnd r s R S n = false
  | 0, _ => rfl
  | n + 1, h => by
    rw [zfnd, zfnd.no n (fun k a b => h k a (by omega))]
    have z := h n (by omega) (by omega)
    by_cases c : r (n : Int) = R
    · have d : ¬ s (n : Int) = S := fun e => z ⟨c, e⟩
      simp [c, d]
    · simp [c]
theorem zfnd.up {r s : Int → Int} {R S R0 S0 : Int} {n : Nat} {m : Int} (hm : m = n) : zfnd (upk r m R0) (upk s m S0) R S (n + 1) = (zfnd r s R S n || (R0 == R && S0 == S)) := by
  subst hm
  have c := zfnd.cg (r := r) (s := s) (r' := upk r (n : Int) R0) (s' := upk s (n : Int) S0) (R := R) (S := S) n (fun k a b => ⟨upk_o (by omega), upk_o (by omega)⟩)
  rw [zfnd, c, upk_s, upk_s]
/-- the first place of a summary, or none -/
def zFI (r s : Int → Int) (n R S v : Int) : Prop := (v = -1 ∧ ∀ k, 0 ≤ k → k < n → ¬ (r k = R ∧ s k = S)) ∨ (0 ≤ v ∧ v < n ∧ r v = R ∧ s v = S ∧ ∀ k, 0 ≤ k → k < v → ¬ (r k = R ∧ s k = S))
theorem zFI.u {r s : Int → Int} {n R S v v' : Int} (h : zFI r s n R S v) (h' : zFI r s n R S v') : v = v' := by
  rcases h with ⟨a, b⟩ | ⟨a, b, c, d, e⟩ <;> rcases h' with ⟨a', b'⟩ | ⟨a', b', c', d', e'⟩
  · omega
  · exact absurd ⟨c', d'⟩ (b v' a' b')
  · exact absurd ⟨c, d⟩ (b' v a b)
  · by_cases x : v < v'
    · exact absurd ⟨c, d⟩ (e' v a x)
    · by_cases y : v' < v
      · exact absurd ⟨c', d'⟩ (e v' a' y)
      · omega
def zNF (r s : Int → Int) (R S i : Int) : Prop := ∀ k, 0 ≤ k → k < i → ¬ (r k = R ∧ s k = S)
theorem zNF.nil {r s : Int → Int} {R S : Int} : zNF r s R S 0 := fun k a b => by omega
theorem zNF.step {r s : Int → Int} {R S i i' : Int} (h : zNF r s R S i) (e : i' = i + 1) (hn : ¬ (r i = R ∧ s i = S)) : zNF r s R S i' := fun k a b => by
  by_cases z : k = i
  · rw [z]; exact hn
  · exact h k a (by omega)
theorem zNF.hit {r s : Int → Int} {R S i n : Int} (h : zNF r s R S i) (h0 : 0 ≤ i) (h1 : i < n) (e : r i = R) (e' : s i = S) : zFI r s n R S i := Or.inr ⟨h0, h1, e, e', h⟩
theorem zNF.end {r s : Int → Int} {R S i n : Int} (h : zNF r s R S i) (h1 : n ≤ i) : zFI r s n R S (-1) := Or.inl ⟨rfl, fun k a b => h k a (by omega)⟩
theorem zFI.cv {r s : Int → Int} {n R S v v' : Int} (h : zFI r s n R S v) (e : v' = v) : zFI r s n R S v' := by subst e; exact h
theorem zFI.cg {r s r' s' : Int → Int} {n R S v : Int} (h : zFI r s n R S v) (e : ∀ k, 0 ≤ k → k < n → r' k = r k ∧ s' k = s k) : zFI r' s' n R S v := by
  rcases h with ⟨a, b⟩ | ⟨a, b, c, d, f⟩
  · exact Or.inl ⟨a, fun k k0 k1 z => b k k0 k1 ⟨by rw [← (e k k0 k1).1]; exact z.1, by rw [← (e k k0 k1).2]; exact z.2⟩⟩
  · exact Or.inr ⟨a, b, by rw [(e v a b).1]; exact c, by rw [(e v a b).2]; exact d, fun k k0 k1 z => f k k0 k1 ⟨by rw [← (e k k0 (by omega)).1]; exact z.1, by rw [← (e k k0 (by omega)).2]; exact z.2⟩⟩
theorem zFI.fnd {r s : Int → Int} {n R S v : Int} (h : zFI r s n R S v) (hn : 0 ≤ n) : zfnd r s R S n.toNat = true ↔ ¬ v = -1 := by
  rcases h with ⟨a, b⟩ | ⟨a, b, c, d, f⟩
  · rw [zfnd.no n.toNat (fun k k0 k1 => b k k0 (by omega)), a]
    simp
  · rw [zfnd.yes n.toNat v a (by omega) c d]
    refine ⟨fun _ => by omega, fun _ => rfl⟩
/-- one summary more, unless it is there or there are too many -/
def zput (T : zT3) (R S : Int) : zT3 := if 40 < T.1 ∨ zfnd T.2.1 T.2.2 R S T.1.toNat = true then T else (T.1 + 1, upk T.2.1 T.1 R, upk T.2.2 T.1 S)
theorem zput_f {T : zT3} {R S : Int} (h : 40 < T.1) : zput T R S = T := by unfold zput; rw [if_pos (Or.inl h)]
theorem zput_y {T : zT3} {R S : Int} (h : zfnd T.2.1 T.2.2 R S T.1.toNat = true) : zput T R S = T := by unfold zput; rw [if_pos (Or.inr h)]
theorem zput_n {T : zT3} {R S : Int} (h : ¬ 40 < T.1) (h' : ¬ zfnd T.2.1 T.2.2 R S T.1.toNat = true) : zput T R S = (T.1 + 1, upk T.2.1 T.1 R, upk T.2.2 T.1 S) := by
  unfold zput; rw [if_neg (fun c => c.elim h h')]
def zin (T : zT3) : Prop := 0 ≤ T.1 ∧ T.1 ≤ 41
/-- of what was there nothing changes -/
def zle (T T' : zT3) : Prop := T.1 ≤ T'.1 ∧ T'.1 ≤ 41 ∧ ∀ k, 0 ≤ k → k < T.1 → T'.2.1 k = T.2.1 k ∧ T'.2.2 k = T.2.2 k
theorem zle.rf {T : zT3} (h : zin T) : zle T T := ⟨Int.le_refl _, h.2, fun _ _ _ => ⟨rfl, rfl⟩⟩
theorem zle.tr {T U V : zT3} (h : zle T U) (h' : zle U V) : zle T V := ⟨by have := h.1; have := h'.1; omega, h'.2.1, fun k a b => ⟨(h'.2.2 k a (by have := h.1; omega)).1.trans (h.2.2 k a b).1, (h'.2.2 k a (by have := h.1; omega)).2.trans (h.2.2 k a b).2⟩⟩
theorem zle.in {T U : zT3} (h : zle T U) (hT : zin T) : zin U := ⟨by have := h.1; have := hT.1; omega, h.2.1⟩
theorem zput_le {T : zT3} (R S : Int) (h : zin T) : zle T (zput T R S) := by
  unfold zput
  split
  · exact zle.rf h
  · rename_i c
    refine ⟨?_, ?_, fun k a b => ⟨upk_o (by omega), upk_o (by omega)⟩⟩
    · show T.1 ≤ T.1 + 1; omega
    · have : ¬ 40 < T.1 := fun z => c (Or.inl z)
      show T.1 + 1 ≤ 41; omega
def zit (f : Nat → zT3 → zT3) : Nat → zT3 → zT3
  | 0, T => T
  | n + 1, T => f n (zit f n T)
theorem zit_le {f : Nat → zT3 → zT3} (hf : ∀ i T, zin T → zle T (f i T)) : ∀ (n : Nat) (T : zT3), zin T → zle T (zit f n T)
  | 0, T, h => zle.rf h
  | n + 1, T, h => (zit_le hf n T h).tr (hf n _ ((zit_le hf n T h).in h))
theorem zit_id {f : Nat → zT3 → zT3} {T : zT3} (n : Nat) : ∀ m : Nat, (∀ i, n ≤ i → i < n + m → f i (zit f n T) = zit f n T) → zit f (n + m) T = zit f n T
  | 0, _ => rfl
  | m + 1, h => by
    have i := zit_id n m (fun i a b => h i a (by omega))
    show f (n + m) (zit f (n + m) T) = _
    rw [i]
    exact h (n + m) (by omega) (by omega)
theorem zit_fix {f : Nat → zT3 → zT3} {T : zT3} : ∀ n : Nat, (∀ i, i < n → f i T = T) → zit f n T = T
  | 0, _ => rfl
  | n + 1, h => by
    show f n (zit f n T) = T
    rw [zit_fix n (fun i a => h i (by omega))]
    exact h n (by omega)
/-! the steps of the table: letters, pairs, all -/
def zTt1 (st : Int → Int) (sm c k : Int) (l : Nat) (T : zT3) : zT3 := zput T (zmZ (T.2.1 k) (st (l : Int)) 3) (if (l : Int) < c then sm else thnZ (T.2.2 k) (st (l : Int)) 9)
def zBk (K : Int → Int) (T : zT3) (k j c l : Int) : zT3 := zput T (zmZ (T.2.1 j) (zovZ K c l (T.2.2 k) 3) 3) (thnZ (T.2.2 j) (zovZ K c l (T.2.2 k) 3) 9)
def zTt2 (K : Int → Int) (k j c l : Int) (T : zT3) : zT3 := if j < k then zBk K (zBk K T k j c l) j k c l else zBk K T k j c l
def zTt3 (K : Int → Int) (k j c0 rt c : Int) (T : zT3) : zT3 := zit (fun l => zTt2 K k j c (c0 + (l : Int))) rt.toNat T
def zTt4 (K : Int → Int) (k c0 rt j : Int) (T : zT3) : zT3 := zit (fun c => zTt3 K k j c0 rt (c : Int)) c0.toNat T
def zTt5 (st K : Int → Int) (sm c0 rt ls k : Int) (T : zT3) : zT3 := zit (fun j => zTt4 K k c0 rt (j : Int)) (k + 1).toNat (zit (zTt1 st sm c0 k) ls.toNat T)
def zS6 (st K : Int → Int) (sm c0 rt ls : Int) (k : Nat) (T : zT3) : zT3 := if (k : Int) < T.1 then zTt5 st K sm c0 rt ls (k : Int) T else T
def zT0 (s0 sm : Int) : zT3 := zput (0, (fun _ => 0), (fun _ => 0)) s0 sm
def zTA (st K : Int → Int) (s0 sm c0 rt ls : Int) : zT3 := zit (zS6 st K sm c0 rt ls) 40 (zT0 s0 sm)
theorem zT0_1 (s0 sm : Int) : zT0 s0 sm = (1, upk (fun _ => 0) 0 s0, upk (fun _ => 0) 0 sm) := zput_n (T := ((0 : Int), (fun _ => (0 : Int)), (fun _ => (0 : Int)))) (show ¬ (40 : Int) < 0 by decide) (show ¬ (false = true) by decide)
theorem zin0 (s0 sm : Int) : zin (zT0 s0 sm) := by
  rw [zT0_1]
  exact ⟨show (0 : Int) ≤ 1 by decide, show (1 : Int) ≤ 41 by decide⟩
theorem zTt1_le (st : Int → Int) (sm c k : Int) (l : Nat) (T : zT3) (h : zin T) : zle T (zTt1 st sm c k l T) := zput_le _ _ h
theorem zBk_le (K : Int → Int) (k j c l : Int) (T : zT3) (h : zin T) : zle T (zBk K T k j c l) := zput_le _ _ h
theorem zTt2_le (K : Int → Int) (k j c l : Int) (T : zT3) (h : zin T) : zle T (zTt2 K k j c l T) := by
  unfold zTt2
  split
  · exact (zBk_le K k j c l T h).tr (zBk_le K j k c l _ ((zBk_le K k j c l T h).in h))
  · exact zBk_le K k j c l T h
theorem zTt3_le (K : Int → Int) (k j c0 rt c : Int) (T : zT3) (h : zin T) : zle T (zTt3 K k j c0 rt c T) := zit_le (fun i T h => zTt2_le K k j c (c0 + (i : Int)) T h) _ T h
theorem zTt4_le (K : Int → Int) (k c0 rt j : Int) (T : zT3) (h : zin T) : zle T (zTt4 K k c0 rt j T) := zit_le (fun i T h => zTt3_le K k j c0 rt (i : Int) T h) _ T h
theorem zTt5_le (st K : Int → Int) (sm c0 rt ls k : Int) (T : zT3) (h : zin T) : zle T (zTt5 st K sm c0 rt ls k T) :=
  have a := zit_le (fun i T h => zTt1_le st sm c0 k i T h) ls.toNat T h
  a.tr (zit_le (fun i T h => zTt4_le K k c0 rt (i : Int) T h) _ _ (a.in h))
theorem zS6_le (st K : Int → Int) (sm c0 rt ls : Int) (k : Nat) (T : zT3) (h : zin T) : zle T (zS6 st K sm c0 rt ls k T) := by
  unfold zS6
  split
  · exact zTt5_le st K sm c0 rt ls _ T h
  · exact zle.rf h
/-- where there are too many, nothing is put any more -/
theorem zTt1_f {st : Int → Int} {sm c k : Int} {l : Nat} {T : zT3} (h : 40 < T.1) : zTt1 st sm c k l T = T := zput_f h
theorem zBk_f {K : Int → Int} {k j c l : Int} {T : zT3} (h : 40 < T.1) : zBk K T k j c l = T := zput_f h
theorem zTt2_f {K : Int → Int} {k j c l : Int} {T : zT3} (h : 40 < T.1) : zTt2 K k j c l T = T := by
  unfold zTt2
  split
  · rw [zBk_f h, zBk_f h]
  · exact zBk_f h
theorem zTt3_f {K : Int → Int} {k j c0 rt c : Int} {T : zT3} (h : 40 < T.1) : zTt3 K k j c0 rt c T = T := zit_fix _ (fun _ _ => zTt2_f h)
theorem zTt4_f {K : Int → Int} {k c0 rt j : Int} {T : zT3} (h : 40 < T.1) : zTt4 K k c0 rt j T = T := zit_fix _ (fun _ _ => zTt3_f h)
theorem zTt5_f {st K : Int → Int} {sm c0 rt ls k : Int} {T : zT3} (h : 40 < T.1) : zTt5 st K sm c0 rt ls k T = T := by
  unfold zTt5
  rw [zit_fix (f := zTt1 st sm c0 k) _ (fun _ _ => zTt1_f h)]
  exact zit_fix _ (fun _ _ => zTt4_f h)
theorem zS6_f {st K : Int → Int} {sm c0 rt ls : Int} {k : Nat} {T : zT3} (h : 40 < T.1 ∨ T.1 ≤ (k : Int)) : zS6 st K sm c0 rt ls k T = T := by
  unfold zS6
  rcases h with h | h
  · rw [zTt5_f h, ite_self]
  · rw [if_neg (by omega)]
/-- the rows of the table so far, where its loop stands -/
theorem zTA_end {st K : Int → Int} {s0 sm c0 rt ls k : Int} {T : zT3} (hT : T = zit (zS6 st K sm c0 rt ls) k.toNat (zT0 s0 sm)) (hk : 0 ≤ k ∧ k ≤ 40) (h : 40 < T.1 ∨ T.1 ≤ k ∨ k = 40) : T = zTA st K s0 sm c0 rt ls := by
  unfold zTA
  rw [hT] at h ⊢
  by_cases e : k = 40
  · rw [e]; rfl
  · have h2 : 40 < (zit (zS6 st K sm c0 rt ls) k.toNat (zT0 s0 sm)).1 ∨ (zit (zS6 st K sm c0 rt ls) k.toNat (zT0 s0 sm)).1 ≤ k := by
      rcases h with h | h | h
      · exact Or.inl h
      · exact Or.inr h
      · exact absurd h e
    have i := zit_id (f := zS6 st K sm c0 rt ls) (T := zT0 s0 sm) k.toNat (40 - k.toNat) (fun i a b => zS6_f (by
      rcases h2 with h | h
      · exact Or.inl h
      · exact Or.inr (by omega)))
    rw [show k.toNat + (40 - k.toNat) = 40 by omega] at i
    exact i.symm
/-! the table by a row, where its loops stand -/
def zKk (q : Int → Int) (b k : Int) : zT3 := zit (zS6 (zst q b) (zks q b) (smeZ (q b)) (q 0) (q 1) (q 0 + q 1 + q 2)) k.toNat (zT0 (q (b + 2)) (smeZ (q b)))
def zKl (q : Int → Int) (b k l : Int) : zT3 := zit (zTt1 (zst q b) (smeZ (q b)) (q 0) k) l.toNat (zKk q b k)
def zKj (q : Int → Int) (b k j : Int) : zT3 := zit (fun i => zTt4 (zks q b) k (q 0) (q 1) (i : Int)) j.toNat (zKl q b k (q 0 + q 1 + q 2))
def zKc (q : Int → Int) (b k j c : Int) : zT3 := zit (fun i => zTt3 (zks q b) k j (q 0) (q 1) (i : Int)) c.toNat (zKj q b k j)
def zKm (q : Int → Int) (b k j c m : Int) : zT3 := zit (fun i => zTt2 (zks q b) k j c (q 0 + (i : Int))) m.toNat (zKc q b k j c)
def zTQA (q : Int → Int) (b : Int) : zT3 := zTA (zst q b) (zks q b) (q (b + 2)) (smeZ (q b)) (q 0) (q 1) (q 0 + q 1 + q 2)
theorem zit_s {f : Nat → zT3 → zT3} {T : zT3} {i i' : Int} (h : 0 ≤ i) (e : i' = i + 1) : zit f i'.toNat T = f i.toNat (zit f i.toNat T) := by
  subst e
  rw [show (i + 1).toNat = i.toNat + 1 by omega]
  rfl
theorem zKk_0 (q : Int → Int) (b : Int) : zKk q b 0 = zT0 (q (b + 2)) (smeZ (q b)) := rfl
theorem zKl_0 (q : Int → Int) (b k : Int) : zKl q b k 0 = zKk q b k := rfl
theorem zKj_0 (q : Int → Int) (b k : Int) : zKj q b k 0 = zKl q b k (q 0 + q 1 + q 2) := rfl
theorem zKc_0 (q : Int → Int) (b k j : Int) : zKc q b k j 0 = zKj q b k j := rfl
theorem zKm_0 (q : Int → Int) (b k j c : Int) : zKm q b k j c 0 = zKc q b k j c := rfl
theorem zKl_s {q : Int → Int} {b k l l' : Int} (h : 0 ≤ l) (e : l' = l + 1) : zKl q b k l' = zput (zKl q b k l) (zmZ ((zKl q b k l).2.1 k) (zst q b l) 3) (if l < q 0 then smeZ (q b) else thnZ ((zKl q b k l).2.2 k) (zst q b l) 9) := by
  unfold zKl
  rw [zit_s h e]
  show zput _ _ _ = _
  rw [show ((l.toNat : Nat) : Int) = l by omega]
theorem zKm_s {q : Int → Int} {b k j c m m' : Int} (h : 0 ≤ m) (e : m' = m + 1) : zKm q b k j c m' = zTt2 (zks q b) k j c (q 0 + m) (zKm q b k j c m) := by
  unfold zKm
  rw [zit_s h e]
  show zTt2 _ _ _ _ _ _ = _
  rw [show ((m.toNat : Nat) : Int) = m by omega]
theorem zKc_s {q : Int → Int} {b k j c c' : Int} (h : 0 ≤ c) (e : c' = c + 1) : zKc q b k j c' = zKm q b k j c (q 1) := by
  unfold zKm
  rw [show zKc q b k j c' = zTt3 (zks q b) k j (q 0) (q 1) ((c.toNat : Nat) : Int) (zKc q b k j c) from by unfold zKc; exact zit_s h e, show ((c.toNat : Nat) : Int) = c by omega]
  rfl
theorem zKj_s {q : Int → Int} {b k j j' : Int} (h : 0 ≤ j) (e : j' = j + 1) : zKj q b k j' = zKc q b k j (q 0) := by
  unfold zKc
  rw [show zKj q b k j' = zTt4 (zks q b) k (q 0) (q 1) ((j.toNat : Nat) : Int) (zKj q b k j) from by unfold zKj; exact zit_s h e, show ((j.toNat : Nat) : Int) = j by omega]
  rfl
theorem zKk_s {q : Int → Int} {b k k' : Int} (h : 0 ≤ k) (e : k' = k + 1) (hk : k < (zKk q b k).1) : zKk q b k' = zKj q b k k' := by
  subst e
  rw [show zKk q b (k + 1) = zS6 (zst q b) (zks q b) (smeZ (q b)) (q 0) (q 1) (q 0 + q 1 + q 2) k.toNat (zKk q b k) from by unfold zKk; exact zit_s h rfl]
  unfold zS6
  rw [show ((k.toNat : Nat) : Int) = k by omega, if_pos hk]
  rfl
theorem zKk_in (q : Int → Int) (b k : Int) : zin (zKk q b k) := (zit_le (fun i T h => zS6_le _ _ _ _ _ _ i T h) _ _ (zin0 _ _)).in (zin0 _ _)
theorem zKl_in (q : Int → Int) (b k l : Int) : zin (zKl q b k l) := (zit_le (fun i T h => zTt1_le _ _ _ _ i T h) _ _ (zKk_in q b k)).in (zKk_in q b k)
theorem zKj_in (q : Int → Int) (b k j : Int) : zin (zKj q b k j) := (zit_le (fun i T h => zTt4_le _ _ _ _ _ T h) _ _ (zKl_in q b k _)).in (zKl_in q b k _)
theorem zKc_in (q : Int → Int) (b k j c : Int) : zin (zKc q b k j c) := (zit_le (fun i T h => zTt3_le _ _ _ _ _ _ T h) _ _ (zKj_in q b k j)).in (zKj_in q b k j)
theorem zKm_in (q : Int → Int) (b k j c m : Int) : zin (zKm q b k j c m) := (zit_le (fun i T h => zTt2_le _ _ _ _ _ T h) _ _ (zKc_in q b k j c)).in (zKc_in q b k j c)
theorem zKl_le (q : Int → Int) (b k l : Int) : zle (zKk q b k) (zKl q b k l) := zit_le (fun i T h => zTt1_le _ _ _ _ i T h) _ _ (zKk_in q b k)
theorem zKj_le (q : Int → Int) (b k j : Int) : zle (zKk q b k) (zKj q b k j) := (zKl_le q b k _).tr (zit_le (fun i T h => zTt4_le _ _ _ _ _ T h) _ _ (zKl_in q b k _))
theorem zKc_le (q : Int → Int) (b k j c : Int) : zle (zKk q b k) (zKc q b k j c) := (zKj_le q b k j).tr (zit_le (fun i T h => zTt3_le _ _ _ _ _ _ T h) _ _ (zKj_in q b k j))
theorem zKm_le (q : Int → Int) (b k j c m : Int) : zle (zKk q b k) (zKm q b k j c m) := (zKc_le q b k j c).tr (zit_le (fun i T h => zTt2_le _ _ _ _ _ T h) _ _ (zKc_in q b k j c))
/-- too many: the rest of a round puts nothing -/
theorem zKj_f {q : Int → Int} {b k j j' : Int} (h : 40 < (zKj q b k j).1) (h0 : 0 ≤ j) (h1 : j ≤ j') : zKj q b k j' = zKj q b k j := by
  unfold zKj at h ⊢
  have i := zit_id (f := fun i => zTt4 (zks q b) k (q 0) (q 1) (i : Int)) (T := zKl q b k (q 0 + q 1 + q 2)) j.toNat (j'.toNat - j.toNat) (fun i _ _ => zTt4_f h)
  rw [show j.toNat + (j'.toNat - j.toNat) = j'.toNat by omega] at i
  exact i
theorem zKk_end {q : Int → Int} {b k : Int} (hk : 0 ≤ k ∧ k ≤ 40) (h : 40 < (zKk q b k).1 ∨ (zKk q b k).1 ≤ k ∨ k = 40) : zKk q b k = zTQA q b := zTA_end rfl hk h
/-- the reference's table -/
def zTRr (N : Mem) (T : zT3) : Prop := N 163 35 = T.1 ∧ ∀ k, 0 ≤ k → k < T.1 → N 181 k = T.2.1 k ∧ N 182 k = T.2.2 k
theorem zTRr.fr {L : List (Nat × Int)} {M N : Mem} {T : zT3} (h : zTRr M T) (hF : Fr L M N) (hL : (!(fin L 64 35) && L.all (fun p => !(p.1 == 81)) && L.all (fun p => !(p.1 == 82))) = true) : zTRr N T := by
  simp only [Bool.and_eq_true, Bool.not_eq_true'] at hL
  unfold zTRr
  rw [hF.e kd_163 35 hL.1.1, hF.fn kd_181 hL.1.2, hF.fn kd_182 hL.2]
  exact h
theorem zTRr.full {M : Mem} {T : zT3} {R S : Int} (h : zTRr M T) (hf : 40 < M 163 35) : zTRr M (zput T R S) := by rw [zput_f (by rw [← h.1]; exact hf)]; exact h
theorem zTRr.have {M : Mem} {T : zT3} {R S v : Int} (h : zTRr M T) (hi : zin T) (hv : zFI (M 181) (M 182) (M 163 35) R S v) (hn : ¬ v = -1) : zTRr M (zput T R S) := by
  have f := (zFI.cg hv (r' := T.2.1) (s' := T.2.2) (fun k a b => ⟨(h.2 k a (by rw [← h.1]; exact b)).1.symm, (h.2 k a (by rw [← h.1]; exact b)).2.symm⟩))
  rw [h.1] at f
  rw [zput_y ((f.fnd hi.1).mpr hn)]
  exact h
theorem zTRr.new {M N : Mem} {T : zT3} {R S v : Int} (h : zTRr M T) (hi : zin T) (hv : zFI (M 181) (M 182) (M 163 35) R S v) (hn : v = -1) (hf : ¬ 40 < M 163 35) (e : N 163 35 = M 163 35 + 1) (u1 : ∀ j, N 181 j = if j = M 163 35 then R else M 181 j) (u2 : ∀ j, N 182 j = if j = M 163 35 then S else M 182 j) : zTRr N (zput T R S) := by
  have f := (zFI.cg hv (r' := T.2.1) (s' := T.2.2) (fun k a b => ⟨(h.2 k a (by rw [← h.1]; exact b)).1.symm, (h.2 k a (by rw [← h.1]; exact b)).2.symm⟩))
  rw [h.1] at f
  have g : ¬ zfnd T.2.1 T.2.2 R S T.1.toNat = true := fun z => ((f.fnd hi.1).mp z) hn
  rw [zput_n (by rw [← h.1]; exact hf) g]
  refine ⟨by rw [e, h.1], fun k k0 k1 => ?_⟩
  have k2 : k < T.1 + 1 := k1
  show N 181 k = upk T.2.1 T.1 R k ∧ N 182 k = upk T.2.2 T.1 S k
  rw [u1, u2, h.1]
  by_cases z : k = T.1
  · rw [if_pos z, if_pos z, z, upk_s, upk_s]; exact ⟨rfl, rfl⟩
  · rw [if_neg z, if_neg z, upk_o z, upk_o z]; exact h.2 k k0 (by omega)
theorem zTRr.at {M : Mem} {T T0 : zT3} {k : Int} (h : zTRr M T) (hl : zle T0 T) (h0 : 0 ≤ k) (h1 : k < T0.1) : M 181 k = T.2.1 k ∧ M 182 k = T.2.2 k := h.2 k h0 (by have := hl.1; omega)

theorem zTRr.stl {L N : Mem} {q : Int → Int} {b k l l' r1 r2 : Int} (h : zTRr L (zKl q b k l)) (hp : zTRr N (zput (zKl q b k l) r1 r2)) (h0k : 0 ≤ k) (hk : k < (zKk q b k).1) (h0 : 0 ≤ l) (e : l' = l + 1) (e1 : r1 = zmZ (L 181 k) (zst q b l) 3) (e2 : (l < q 0 → r2 = smeZ (q b)) ∧ (¬ l < q 0 → r2 = thnZ (L 182 k) (zst q b l) 9)) : zTRr N (zKl q b k l') := by
  obtain ⟨a1, a2⟩ := h.at (zKl_le q b k l) h0k hk
  rw [a1] at e1
  rw [a2] at e2
  have e3 : r2 = if l < q 0 then smeZ (q b) else thnZ ((zKl q b k l).2.2 k) (zst q b l) 9 := by
    by_cases c : l < q 0
    · rw [if_pos c]; exact e2.1 c
    · rw [if_neg c]; exact e2.2 c
  rw [zKl_s h0 e, ← e1, ← e3]
  exact hp
theorem zTRr.bk {M N : Mem} {K : Int → Int} {T : zT3} {k j c l ro r2 r3 : Int} (h : zTRr M T) (hp : zTRr N (zput T r2 r3)) (hk : 0 ≤ k ∧ k < T.1) (hj : 0 ≤ j ∧ j < T.1) (e : ro = zovZ K c l (M 182 k) 3) (e2 : r2 = zmZ (M 181 j) ro 3) (e3 : r3 = thnZ (M 182 j) ro 9) : zTRr N (zBk K T k j c l) := by
  rw [(h.2 k hk.1 hk.2).2] at e
  rw [(h.2 j hj.1 hj.2).1, e] at e2
  rw [(h.2 j hj.1 hj.2).2, e] at e3
  unfold zBk
  rw [← e2, ← e3]
  exact hp
theorem zTRr.m0 {N : Mem} {q : Int → Int} {b k j c l m m' : Int} (h : zTRr N (zBk (zks q b) (zKm q b k j c m) k j c l)) (hj : ¬ j < k) (h0 : 0 ≤ m) (e : m' = m + 1) (el : l = q 0 + m) : zTRr N (zKm q b k j c m') := by
  rw [zKm_s h0 e, ← el]
  unfold zTt2
  rw [if_neg hj]
  exact h
theorem zTRr.m1 {N : Mem} {q : Int → Int} {b k j c l m m' : Int} (h : zTRr N (zBk (zks q b) (zBk (zks q b) (zKm q b k j c m) k j c l) j k c l)) (hj : j < k) (h0 : 0 ≤ m) (e : m' = m + 1) (el : l = q 0 + m) : zTRr N (zKm q b k j c m') := by
  rw [zKm_s h0 e, ← el]
  unfold zTt2
  rw [if_pos hj]
  exact h
theorem zTRr.cv {N : Mem} {T T' : zT3} (h : zTRr N T) (e : T' = T) : zTRr N T' := by subst e; exact h
theorem zTRr.nil {N : Mem} (h : N 163 35 = 0) : zTRr N (0, (fun _ => 0), (fun _ => 0)) := ⟨h, fun k a b => absurd (show k < 0 from b) (by omega)⟩
/-! what is told of the table -/
def zTBk (q : Int → Int) (a1 : Int) : Prop := 0 ≤ a1 ∧ a1 < q 3 ∧ (zTQA q (85 * a1 + 100)).1 ≤ 40
def zTBL (q : Int → Int) (a1 r : Int) : Prop := (zTBk q a1 ∧ r = (zTQA q (85 * a1 + 100)).1) ∨ (¬ zTBk q a1 ∧ r = -1)
theorem zTBL.u {q : Int → Int} {a1 r r' : Int} (h : zTBL q a1 r) (h' : zTBL q a1 r') : r = r' := by
  rcases h with ⟨a, b⟩ | ⟨a, b⟩ <;> rcases h' with ⟨a', b'⟩ | ⟨a', b'⟩
  · exact b.trans b'.symm
  · exact absurd a a'
  · exact absurd a' a
  · exact b.trans b'.symm
def zTBi (q : Int → Int) (a1 k : Int) : Prop := zTBk q a1 ∧ 0 ≤ k ∧ k < (zTQA q (85 * a1 + 100)).1
def zSUMr (q : Int → Int) (a1 a2 a3 r : Int) : Prop := (a3 = 0 ∧ r = (zTQA q (85 * a1 + 100)).2.1 a2) ∨ (a3 = 1 ∧ r = (zTQA q (85 * a1 + 100)).2.2 a2) ∨ (a3 = 2 ∧ ((r = 1 ∧ ¬ zand ((zTQA q (85 * a1 + 100)).2.1 a2) (q (85 * a1 + 103)) = 0) ∨ (r = 0 ∧ zand ((zTQA q (85 * a1 + 100)).2.1 a2) (q (85 * a1 + 103)) = 0)))
theorem zSUMr.u {q : Int → Int} {a1 a2 a3 r r' : Int} (h : zSUMr q a1 a2 a3 r) (h' : zSUMr q a1 a2 a3 r') : r = r' := by
  rcases h with ⟨a, b⟩ | ⟨a, b⟩ | ⟨a, b⟩ <;> rcases h' with ⟨a', b'⟩ | ⟨a', b'⟩ | ⟨a', b'⟩ <;> first | omega | skip
def zSUM (q : Int → Int) (a1 a2 a3 r : Int) : Prop := ((0 ≤ a3 ∧ a3 ≤ 2 ∧ zTBi q a1 a2) ∧ zSUMr q a1 a2 a3 r) ∨ (¬ (0 ≤ a3 ∧ a3 ≤ 2 ∧ zTBi q a1 a2) ∧ r = -1)
theorem zSUM.u {q : Int → Int} {a1 a2 a3 r r' : Int} (h : zSUM q a1 a2 a3 r) (h' : zSUM q a1 a2 a3 r') : r = r' := by
  rcases h with ⟨a, b⟩ | ⟨a, b⟩ <;> rcases h' with ⟨a', b'⟩ | ⟨a', b'⟩
  · exact b.u b'
  · exact absurd a a'
  · exact absurd a' a
  · exact b.trans b'.symm
def zfit (T : zT3) (R S r : Int) : Prop := zFI T.2.1 T.2.2 T.1 R S r
def zNXr (q : Int → Int) (b k l : Int) : Int := if l < q 0 then smeZ (q b) else thnZ ((zTQA q b).2.2 k) (zst q b l) 9
def zNXT (q : Int → Int) (a1 a2 a3 r : Int) : Prop := ((0 ≤ a3 ∧ a3 < q 0 + q 1 + q 2 ∧ zTBi q a1 a2) ∧ zfit (zTQA q (85 * a1 + 100)) (zmZ ((zTQA q (85 * a1 + 100)).2.1 a2) (zst q (85 * a1 + 100) a3) 3) (zNXr q (85 * a1 + 100) a2 a3) r) ∨ (¬ (0 ≤ a3 ∧ a3 < q 0 + q 1 + q 2 ∧ zTBi q a1 a2) ∧ r = -1)
theorem zNXT.u {q : Int → Int} {a1 a2 a3 r r' : Int} (h : zNXT q a1 a2 a3 r) (h' : zNXT q a1 a2 a3 r') : r = r' := by
  rcases h with ⟨a, b⟩ | ⟨a, b⟩ <;> rcases h' with ⟨a', b'⟩ | ⟨a', b'⟩
  · exact zFI.u b b'
  · exact absurd a a'
  · exact absurd a' a
  · exact b.trans b'.symm
def zNBk (q : Int → Int) (a1 a2 a3 a4 a5 : Int) : Prop := q 0 ≤ a3 ∧ a3 < q 0 + q 1 ∧ 0 ≤ a5 ∧ a5 < q 0 ∧ zTBi q a1 a2 ∧ zTBi q a1 a4
def zNBr (q : Int → Int) (a1 a2 a3 a4 a5 r : Int) : Prop := zfit (zTQA q (85 * a1 + 100)) (zmZ ((zTQA q (85 * a1 + 100)).2.1 a4) (zovZ (zks q (85 * a1 + 100)) a5 a3 ((zTQA q (85 * a1 + 100)).2.2 a2) 3) 3) (thnZ ((zTQA q (85 * a1 + 100)).2.2 a4) (zovZ (zks q (85 * a1 + 100)) a5 a3 ((zTQA q (85 * a1 + 100)).2.2 a2) 3) 9) r
def zNBK (q : Int → Int) (a1 a2 a3 a4 a5 r : Int) : Prop := (zNBk q a1 a2 a3 a4 a5 ∧ zNBr q a1 a2 a3 a4 a5 r) ∨ (¬ zNBk q a1 a2 a3 a4 a5 ∧ r = -1)
theorem zNBK.u {q : Int → Int} {a1 a2 a3 a4 a5 r r' : Int} (h : zNBK q a1 a2 a3 a4 a5 r) (h' : zNBK q a1 a2 a3 a4 a5 r') : r = r' := by
  rcases h with ⟨a, b⟩ | ⟨a, b⟩ <;> rcases h' with ⟨a', b'⟩ | ⟨a', b'⟩
  · exact zFI.u b b'
  · exact absurd a a'
  · exact absurd a' a
  · exact b.trans b'.symm
theorem NX.cv {r r' x : Int} (h : r = x) (e : r' = r) : r' = x := e.trans h
theorem zKjx {q : Int → Int} {b k j j' : Int} (h0 : 0 ≤ j ∧ j ≤ j') (h : j = j' ∨ 40 < (zKj q b k j).1) : zKj q b k j' = zKj q b k j := by
  rcases h with h | h
  · rw [h]
  · exact zKj_f h h0.1 h0.2
theorem zfit.of {N : Mem} {T : zT3} {R S R' S' v r : Int} (h : zTRr N T) (hf : zFI (N 181) (N 182) (N 163 35) R S v) (eR : R = R') (eS : S = S') (e : r = v) : zfit T R' S' r := by
  subst eR eS e
  have f := zFI.cg hf (r' := T.2.1) (s' := T.2.2) (fun k a b => ⟨(h.2 k a (by rw [← h.1]; exact b)).1.symm, (h.2 k a (by rw [← h.1]; exact b)).2.symm⟩)
  rw [h.1] at f
  exact f
