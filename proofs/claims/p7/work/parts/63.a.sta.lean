/-! states told besides -/
def GN (B : Int → Int) (ns T s : Int) : Prop := tbd B T = 0 ∧ tk B T = 2 ∧ tv B T < ns ∧ zand (zshr s (tv B T)) 1 = 0
def SLN (B : Int → Int) (ns j : Int) : Nat → Int → Int → Prop
  | 0, s0, s => s = s0
  | k + 1, s0, s => ∃ s1, SLN B ns j k s0 s1 ∧ GN B ns (j + (k : Int) + 1) s1 ∧ s = zor s1 (zshl 1 (tv B (j + (k : Int) + 1)))
theorem SLN.u {B : Int → Int} {ns j s0 : Int} : ∀ (k : Nat) {s s' : Int}, SLN B ns j k s0 s → SLN B ns j k s0 s' → s = s'
  | 0, s, s', h, h' => by
    have a : s = s0 := h
    have b : s' = s0 := h'
    rw [a, b]
  | k + 1, s, s', ⟨a, h1, _, h2⟩, ⟨b, g1, _, g2⟩ => by rw [h2, g2, SLN.u k h1 g1]
theorem SLN.pre {B : Int → Int} {ns j s0 : Int} {k' : Nat} : ∀ (k : Nat) {s : Int}, SLN B ns j k s0 s → k' < k → ∃ s', SLN B ns j k' s0 s' ∧ GN B ns (j + (k' : Int) + 1) s'
  | 0, _, _, h => by omega
  | k + 1, s, ⟨a, h1, h2, _⟩, h => by
    by_cases e : k' = k
    · subst e; exact ⟨a, h1, h2⟩
    · exact SLN.pre k h1 (by omega)
/-- what becomes of a part that tells states -/
def SRs (B : Int → Int) (ns e s r fk fp : Int) : Prop := (r = 0 ∧ tbd B e = 1 ∧ fk = 1 ∧ fp = tp B e) ∨ (r = 0 ∧ tbd B e = 0 ∧ tk B e ≠ 3 ∧ tk B e ≠ 2 ∧ fk = 2 ∧ fp = tp B e) ∨ (r = 0 ∧ tbd B e = 0 ∧ tk B e = 2 ∧ ns ≤ tv B e ∧ fk = 4 ∧ fp = tp B e) ∨ (r = 0 ∧ tbd B e = 0 ∧ tk B e = 2 ∧ tv B e < ns ∧ zand (zshr s (tv B e)) 1 ≠ 0 ∧ fk = 5 ∧ fp = tp B e) ∨ (r = 1 ∧ tbd B e = 0 ∧ tk B e = 3)
def SR (B : Int → Int) (ns j s0 e s r fk fp : Int) : Prop := ∃ k : Nat, SLN B ns j k s0 s ∧ e = j + (k : Int) + 1 ∧ SRs B ns e s r fk fp
theorem SRs.not {B : Int → Int} {ns e s r fk fp : Int} (h : SRs B ns e s r fk fp) : ¬ GN B ns e s := fun ⟨a, b, c, d⟩ => by
  rcases h with q | q | q | q | q
  · omega
  · omega
  · omega
  · exact q.2.2.2.2.1 d
  · omega
theorem SR.u {B : Int → Int} {ns j s0 e s r fk fp e' s' r' fk' fp' : Int} (h : SR B ns j s0 e s r fk fp) (h' : SR B ns j s0 e' s' r' fk' fp') : e = e' ∧ s = s' ∧ r = r' ∧ (r = 0 → fk = fk' ∧ fp = fp') := by
  obtain ⟨k, a, b, c⟩ := h
  obtain ⟨k', a', b', c'⟩ := h'
  rcases Nat.lt_trichotomy k k' with q | q | q
  · obtain ⟨z, z1, z2⟩ := SLN.pre k' a' q
    rw [SLN.u k z1 a, ← b] at z2
    exact absurd z2 c.not
  · subst q
    have e1 := SLN.u k a a'
    subst e1
    have e2 : e = e' := by rw [b, b']
    subst e2
    refine ⟨rfl, rfl, ?_⟩
    by_cases hb : zand (zshr s (tv B e)) 1 = 0
    · rcases c with c | c | c | c | c <;> rcases c' with d | d | d | d | d <;> first | omega | exact absurd hb c.2.2.2.2.1 | exact absurd hb d.2.2.2.2.1
    · rcases c with c | c | c | c | c <;> rcases c' with d | d | d | d | d <;> omega
  · obtain ⟨z, z1, z2⟩ := SLN.pre k a q
    rw [SLN.u k' z1 a', ← b'] at z2
    exact absurd z2 c'.not
/-- the class in the midst of states -/
def TSs (N M : Mem) (c : Int) (B : Int → Int) (T g : Int) : Prop := (g = 1 ∧ tbd B T = 0 ∧ N c 6 = tk B T ∧ N c 7 = tp B T ∧ N c 7 + N c 8 = tq B T ∧ (tk B T ≠ 2 ∨ (N c 9 = tv B T ∧ 0 ≤ N c 9 ∧ N c 9 ≤ 9999)) ∧ N c 2 = M c 2 ∧ N c 3 = M c 3) ∨ (g = 0 ∧ tbd B T = 1 ∧ N c 2 = 1 ∧ N c 3 = tp B T)
def TS (N M : Mem) (c : Int) (B : Int → Int) (ns j s0 x g s : Int) : Prop := 0 ≤ x ∧ SLN B ns j x.toNat s0 s ∧ x + 1 ≤ tq B (j + x) ∧ TSs N M c B (j + x + 1) g
theorem TS.g {N M : Mem} {c ns j s0 x g s : Int} {B : Int → Int} (h : TS N M c B ns j s0 x g s) (hg : g ≠ 0) : tbd B (j + x + 1) = 0 ∧ N c 6 = tk B (j + x + 1) ∧ N c 7 = tp B (j + x + 1) ∧ N c 7 + N c 8 = tq B (j + x + 1) ∧ (tk B (j + x + 1) ≠ 2 ∨ (N c 9 = tv B (j + x + 1) ∧ 0 ≤ N c 9 ∧ N c 9 ≤ 9999)) ∧ N c 2 = M c 2 ∧ N c 3 = M c 3 := by
  rcases h.2.2.2 with q | q
  · exact q.2
  · exact absurd q.1 hg
theorem TS.q {N M : Mem} {c ns j s0 x g s n : Int} {B : Int → Int} (h : TS N M c B ns j s0 x g s) (hT : TX B n) (hj : 0 ≤ j) (hk : tk B (j + x + 1) = 2) : x + 2 ≤ tq B (j + x + 1) := by
  have a := (tp_s hT (i := j + x) (j := j + x + 1) (by have := h.1; omega) (by omega)).1
  have b := tq_end hT (j := j + x + 1) (by have := h.1; omega)
  have c := h.2.2.1
  omega
/-- one number of the row is another -/
theorem AT0.set {M N : Mem} {x b i v : Int} {q : Int → Int} (h : AT0 M x q b) (hb : 0 < b) (hi : i = 2 ∨ i = 3) (f : ∀ k, 0 ≤ k → k ≤ 5 → k ≠ i → N x k = M x k) (fi : N x i = v) (f6 : N x 6 = M x 6) (f7 : N x 7 = M x 7) (f8 : N x 8 = M x 8) (f9 : N x 9 = M x 9) (u6 : N (M x 6) = M (M x 6)) (u7 : N (M x 7) = M (M x 7)) (u8 : N (M x 8) = M (M x 8)) (u9 : N (M x 9) = M (M x 9)) : AT0 N x (upk q (b + i) v) b := by
  obtain ⟨a0, a1, a2, a3, a4, a5, a6⟩ := h
  have o : ∀ k, k ≠ b + i → upk q (b + i) v k = q k := fun k hk => upk_o hk
  have r : ∀ k, 0 ≤ k → k < upk q (b + i) v (b + 4) → N (N x 6) k = upk q (b + i) v (b + 5 + 4 * k) ∧ N (N x 7) k = upk q (b + i) v (b + 6 + 4 * k) ∧ N (N x 8) k = upk q (b + i) v (b + 7 + 4 * k) ∧ N (N x 9) k = upk q (b + i) v (b + 8 + 4 * k) := fun k h0 h1 => by
    rw [o (b + 4) (by omega)] at h1
    rw [f6, f7, f8, f9, u6, u7, u8, u9, o _ (by omega), o _ (by omega), o _ (by omega), o _ (by omega)]
    exact a6 k h0 h1
  rcases hi with e | e <;> subst e
  · exact ⟨by rw [f 0 (by decide) (by decide) (by decide), o b (by omega)]; exact a0, by rw [f 1 (by decide) (by decide) (by decide), o _ (by omega)]; exact a1, by rw [fi, upk_s], by rw [f 3 (by decide) (by decide) (by decide), o _ (by omega)]; exact a3, by rw [f 4 (by decide) (by decide) (by decide), o _ (by omega)]; exact a4, by rw [f 5 (by decide) (by decide) (by decide), o 0 (by omega)]; exact a5, r⟩
  · exact ⟨by rw [f 0 (by decide) (by decide) (by decide), o b (by omega)]; exact a0, by rw [f 1 (by decide) (by decide) (by decide), o _ (by omega)]; exact a1, by rw [f 2 (by decide) (by decide) (by decide), o _ (by omega)]; exact a2, by rw [fi, upk_s], by rw [f 4 (by decide) (by decide) (by decide), o _ (by omega)]; exact a4, by rw [f 5 (by decide) (by decide) (by decide), o 0 (by omega)]; exact a5, r⟩
theorem AT.set {M N : Mem} {x b i v : Int} {q : Int → Int} (h : AT M x q b) (hb : 0 < b) (hi : i = 2 ∨ i = 3) (f : ∀ k, 0 ≤ k → k ≤ 5 → k ≠ i → N x k = M x k) (fi : N x i = v) (f6 : N x 6 = M x 6) (f7 : N x 7 = M x 7) (f8 : N x 8 = M x 8) (f9 : N x 9 = M x 9) (u6 : N (M x 6) = M (M x 6)) (u7 : N (M x 7) = M (M x 7)) (u8 : N (M x 8) = M (M x 8)) (u9 : N (M x 9) = M (M x 9)) (f10 : N x 10 = M x 10) (f11 : N x 11 = M x 11) (u10 : N (M x 10) = M (M x 10)) (u11 : N (M x 11) = M (M x 11)) : AT N x (upk q (b + i) v) b :=
  ⟨AT0.set h.1 hb hi f fi f6 f7 f8 f9 u6 u7 u8 u9, (h.2.cg (f 5 (by decide) (by decide) (by omega)) f6 f7 f8 f9 f10 f11 (fun j _ _ => ⟨congrFun u6 j, congrFun u7 j, congrFun u8 j, congrFun u9 j⟩) (fun j => congrFun u10 j) (fun j => congrFun u11 j)).at (f 4 (by decide) (by decide) (by omega))⟩
theorem CA.set {M N : Mem} {c x b : Int} {q q' : Int → Int} (h : CA M c q) (hb : b = 100 ∧ q 3 = 1 ∧ x = M (M c 0) 4 ∨ b = 185 ∧ q 3 = 2 ∧ x = M (M c 0) 5) (hZ : FZ M) (hI : Inv false M) (hm : kd (M c 0) = 12) (hC : Cf (SL (M c 0) (q 3 - 1)) M N) (e0 : N c 0 = M c 0) (e4 : N (M c 0) 4 = M (M c 0) 4) (e5 : N (M c 0) 5 = M (M c 0) 5) (hn : AT N x q' b) (ho : ∀ i, i < b → q' i = q i) (hr : ∀ b, (b = 100 ∨ b = 185) → q (b + 4) ≤ 20 ∨ q 3 = 0) : CA N c q' := by
  have z := hZ.2.1 (M c 0) hm
  have u := ho 3 (by omega)
  unfold CA
  rw [u, e0, e4, e5]
  rcases hb with ⟨e, e3, ex⟩ | ⟨e, e3, ex⟩
  · refine ⟨fun _ => ?_, fun a => by omega⟩
    rw [← ex]
    rw [e] at hn
    exact hn
  · refine ⟨fun _ => ?_, fun _ => ?_⟩
    · have k4 := Inv.r hI hm rfl 4 rfl rfl
      refine AT.cg (AT.keep (h.1 (by omega)) hZ hI k4 hC (fun y a b d => ?_)) (ho 0 (by omega)) (fun i a b => ho _ (by omega)) (by have := hr 100 (Or.inl rfl); omega)
      rcases d with d | d <;> omega
    · rw [← ex]
      rw [e] at hn
      exact hn
theorem AT.fr {L : List (Nat × Int)} {M N : Mem} {x b : Int} {q : Int → Int} (h : AT M x q b) (hI : Inv false M) (hk : kd x = 1) (hF : Fr L M N) (hL : L.all (fun p => !(IK p.1)) = true) : AT N x q b := by
  have g : ∀ y, IK (kd y) = true → N y = M y := fun y hy => (Cf.fr (Cf.rf (fun _ => False) M) hF hL) y hy (fun a => a)
  exact AT.same h (g x (by rw [hk]; rfl)) (g _ (by rw [Inv.r hI hk rfl 6 rfl rfl]; rfl)) (g _ (by rw [Inv.r hI hk rfl 7 rfl rfl]; rfl)) (g _ (by rw [Inv.r hI hk rfl 8 rfl rfl]; rfl)) (g _ (by rw [Inv.r hI hk rfl 9 rfl rfl]; rfl)) (g _ (by rw [Inv.r hI hk rfl 10 rfl rfl]; rfl)) (g _ (by rw [Inv.r hI hk rfl 11 rfl rfl]; rfl))
