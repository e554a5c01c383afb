/-! what is left of the tables, cell by cell -/
def IT (k : Nat) : Bool := Nat.ble 21 k && Nat.ble k 25
def Ct (S : Int → Prop) (M N : Mem) : Prop := ∀ x, IT (kd x) = true → ¬ S x → N x = M x
theorem Ct.rf (S : Int → Prop) (M : Mem) : Ct S M M := fun _ _ _ => rfl
theorem Ct.st {S : Int → Prop} {M N N' : Mem} {c i v : Int} (h : Ct S M N) (hN : N' = mu N c i v) (hc : S c) : Ct S M N' := fun x hk hx => by
  have e : x ≠ c := fun q => hx (q ▸ hc)
  subst hN
  funext j
  rw [mu_c e, h x hk hx]
theorem Ct.sk {S : Int → Prop} {M N N' : Mem} {c i v : Int} (h : Ct S M N) (hN : N' = mu N c i v) {k : Nat} (hk : kd c = k) (hn : IT k = false) : Ct S M N' := fun x hx hs => by
  have e : x ≠ c := fun q => by subst q; rw [hk, hn] at hx; cases hx
  subst hN
  funext j
  rw [mu_c e, h x hx hs]
theorem Ct.cp {S : Int → Prop} {M N N' : Mem} {a sp c dp n : Int} (h : Ct S M N) (hN : N' = mcp N a sp c dp n) (hc : S c) : Ct S M N' := fun x hk hx => by
  have e : ¬ x = c := fun q => hx (q ▸ hc)
  subst hN
  funext j
  rw [mcp_o e, h x hk hx]
theorem Ct.fr {S : Int → Prop} {M N N' : Mem} {L : List (Nat × Int)} (h : Ct S M N) (hF : Fr L N N') (hL : L.all (fun p => !(IT p.1)) = true) : Ct S M N' := fun x hk hx => by
  funext j
  have e : fin L (kd x) j = false := by
    cases hf : fin L (kd x) j with
    | false => rfl
    | true =>
      unfold fin at hf
      obtain ⟨p, hp, h1⟩ := List.any_eq_true.mp hf
      have h2 := List.all_eq_true.mp hL p hp
      simp only [Bool.and_eq_true, beq_iff_eq] at h1
      rw [h1.1, hk] at h2
      cases h2
  rw [hF x j e, h x hk hx]
theorem Ct.c {S S' : Int → Prop} {M N N' : Mem} (h : Ct S M N) (h' : Ct S' N N') (hs : ∀ x, S' x → S x) : Ct S M N' := fun x hk hx => by
  rw [h' x hk (fun q => hx (hs x q)), h x hk hx]
theorem Ct.mo {S S' : Int → Prop} {M N : Mem} (h : Ct S M N) (hs : ∀ x, S x → S' x) : Ct S' M N := fun x hk hx => h x hk (fun q => hx (hs x q))
def STb (M : Mem) (c : Int) : Int → Prop := fun x => x = c ∨ x = M c 2 ∨ x = M c 3 ∨ x = M c 4 ∨ x = M c 5
theorem STb.e {M N : Mem} {c x : Int} (h : STb N c x) (e2 : N c 2 = M c 2) (e3 : N c 3 = M c 3) (e4 : N c 4 = M c 4) (e5 : N c 5 = M c 5) : STb M c x := by
  unfold STb at h ⊢
  rw [e2, e3, e4, e5] at h
  exact h
/-! the class's table -/
theorem zbo_al : (List.range 256).all (fun x => (List.range 8).all (fun R => (List.range 8).all (fun R0 => (zand (zshr (zor (x : Int) (zshl 1 (R0 : Int))) (R : Int)) 1 == 0) == ((zand (zshr (x : Int) (R : Int)) 1 == 0) && !(R0 == R)) && decide (0 ≤ zor (x : Int) (zshl 1 (R0 : Int))) && decide (zor (x : Int) (zshl 1 (R0 : Int)) ≤ 255)))) = true := by decide +kernel
theorem zbo_all : ∀ x : Nat, x < 256 → ∀ R : Nat, R < 8 → ∀ R0 : Nat, R0 < 8 → (zand (zshr (zor (x : Int) (zshl 1 (R0 : Int))) (R : Int)) 1 = 0 ↔ (zand (zshr (x : Int) (R : Int)) 1 = 0 ∧ ¬ R0 = R)) ∧ 0 ≤ zor (x : Int) (zshl 1 (R0 : Int)) ∧ zor (x : Int) (zshl 1 (R0 : Int)) ≤ 255 := fun x hx R hR R0 h0 => by
  have a := List.all_eq_true.mp (List.all_eq_true.mp (List.all_eq_true.mp zbo_al x (List.mem_range.mpr hx)) R (List.mem_range.mpr hR)) R0 (List.mem_range.mpr h0)
  simp only [Bool.and_eq_true, decide_eq_true_eq] at a
  obtain ⟨⟨a, b⟩, c⟩ := a
  have a' := eq_of_beq a
  refine ⟨⟨fun h => ?_, fun h => ?_⟩, b, c⟩
  · rw [h] at a'
    have a2 := a'.symm
    rw [show ((0 : Int) == 0) = true from rfl, Bool.and_eq_true] at a2
    exact ⟨eq_of_beq a2.1, fun e => by have := a2.2; rw [e] at this; simp at this⟩
  · have h2 : ((zand (zshr (x : Int) (R : Int)) 1 == 0) && !(R0 == R)) = true := by
      rw [h.1, Bool.and_eq_true]; exact ⟨rfl, by simpa using h.2⟩
    rw [h2] at a'; exact eq_of_beq a'
theorem zbo {x R R0 : Int} (hx : 0 ≤ x ∧ x ≤ 255) (h : 0 ≤ R ∧ R ≤ 7) (h0 : 0 ≤ R0 ∧ R0 ≤ 7) : (zand (zshr (zor x (zshl 1 R0)) R) 1 = 0 ↔ (zand (zshr x R) 1 = 0 ∧ ¬ R0 = R)) ∧ 0 ≤ zor x (zshl 1 R0) ∧ zor x (zshl 1 R0) ≤ 255 := by
  have z := zbo_all x.toNat (by omega) R.toNat (by omega) R0.toNat (by omega)
  rw [show ((x.toNat : Nat) : Int) = x by omega, show ((R.toNat : Nat) : Int) = R by omega, show ((R0.toNat : Nat) : Int) = R0 by omega] at z
  refine ⟨z.1.trans ⟨fun a => ⟨a.1, fun e => a.2 (by omega)⟩, fun a => ⟨a.1, fun e => a.2 (by omega)⟩⟩, z.2⟩
def zTT (M : Mem) (t : Int) (T : zT3) : Prop := M t 1 = T.1 ∧ (∀ k, 0 ≤ k → k < T.1 → k < 40 → M (M t 2) k = T.2.1 k ∧ M (M t 3) k = T.2.2 k) ∧ ∀ S, 0 ≤ S → S ≤ 511 → 0 ≤ M (M t 4) S ∧ M (M t 4) S ≤ 255 ∧ ∀ R, 0 ≤ R → R ≤ 7 → (zand (zshr (M (M t 4) S) R) 1 = 0 ↔ zfnd T.2.1 T.2.2 R S T.1.toNat = false)
theorem zTT.cv {M : Mem} {t : Int} {T T' : zT3} (h : zTT M t T) (e : T' = T) : zTT M t T' := by subst e; exact h
theorem zTT.at {M : Mem} {t k : Int} {T T0 : zT3} (h : zTT M t T) (hl : zle T0 T) (h0 : 0 ≤ k) (h1 : k < T0.1) (h2 : k < 40) : M (M t 2) k = T.2.1 k ∧ M (M t 3) k = T.2.2 k := h.2.1 k h0 (by have := hl.1; omega) h2
theorem zTT.fr {L : List (Nat × Int)} {M N : Mem} {t : Int} {T : zT3} (h : zTT M t T) (hI : Inv false M) (hk : kd t = 21) (hF : Fr L M N) (hL : (L.all (fun p => !(p.1 == 21)) && L.all (fun p => !(p.1 == 22)) && L.all (fun p => !(p.1 == 23)) && L.all (fun p => !(p.1 == 24))) = true) : zTT N t T := by
  simp only [Bool.and_eq_true] at hL
  unfold zTT
  rw [hF.fn hk hL.1.1.1, hF.fn (Inv.r hI hk rfl 2 rfl rfl) hL.1.1.2, hF.fn (Inv.r hI hk rfl 3 rfl rfl) hL.1.2, hF.fn (Inv.r hI hk rfl 4 rfl rfl) hL.2]
  exact h
theorem zTT.full {M : Mem} {t R S : Int} {T : zT3} (h : zTT M t T) (hf : 40 < M t 1) : zTT M t (zput T R S) := by rw [zput_f (by rw [← h.1]; exact hf)]; exact h
theorem zTT.have {M : Mem} {t R S : Int} {T : zT3} (h : zTT M t T) (hR : 0 ≤ R ∧ R ≤ 7) (hS : 0 ≤ S ∧ S ≤ 511) (hb : ¬ zand (zshr (M (M t 4) S) R) 1 = 0) : zTT M t (zput T R S) := by
  have z := (h.2.2 S hS.1 hS.2).2.2 R hR.1 hR.2
  have y : zfnd T.2.1 T.2.2 R S T.1.toNat = true := by
    cases e : zfnd T.2.1 T.2.2 R S T.1.toNat with
    | true => rfl
    | false => exact absurd (z.mpr e) hb
  rw [zput_y y]
  exact h
theorem zTT.new {M N : Mem} {t R S : Int} {T : zT3} (h : zTT M t T) (hi : zin T) (hR : 0 ≤ R ∧ R ≤ 7) (hS : 0 ≤ S ∧ S ≤ 511) (hb : zand (zshr (M (M t 4) S) R) 1 = 0) (hf : ¬ 40 < M t 1) (f2 : N t 2 = M t 2) (f3 : N t 3 = M t 3) (f4 : N t 4 = M t 4) (e1 : N t 1 = M t 1 + 1) (up : ∀ j, N (M t 4) j = if j = S then zor (M (M t 4) S) (zshl 1 R) else M (M t 4) j) (us : M t 1 < 40 → (∀ j, N (M t 2) j = if j = M t 1 then R else M (M t 2) j) ∧ ∀ j, N (M t 3) j = if j = M t 1 then S else M (M t 3) j) (un : ¬ M t 1 < 40 → N (M t 2) = M (M t 2) ∧ N (M t 3) = M (M t 3)) : zTT N t (zput T R S) := by
  have z := (h.2.2 S hS.1 hS.2).2.2 R hR.1 hR.2
  have y : ¬ zfnd T.2.1 T.2.2 R S T.1.toNat = true := by rw [z.mp hb]; decide
  rw [zput_n (by rw [← h.1]; exact hf) y]
  refine ⟨by rw [e1, h.1], fun k k0 k1 k2 => ?_, fun S' s0 s1 => ?_⟩
  · have k3 : k < T.1 + 1 := k1
    show N (N t 2) k = upk T.2.1 T.1 R k ∧ N (N t 3) k = upk T.2.2 T.1 S k
    rw [f2, f3]
    by_cases c : M t 1 < 40
    · rw [(us c).1, (us c).2, h.1]
      by_cases w : k = T.1
      · rw [if_pos w, if_pos w, w, upk_s, upk_s]; exact ⟨rfl, rfl⟩
      · rw [if_neg w, if_neg w, upk_o w, upk_o w]; exact h.2.1 k k0 (by omega) k2
    · rw [(un c).1, (un c).2]
      have w : ¬ k = T.1 := by have := h.1; omega
      rw [upk_o w, upk_o w]; exact h.2.1 k k0 (by omega) k2
  · rw [f4, up]
    obtain ⟨p0, p1, p2⟩ := h.2.2 S' s0 s1
    have e : (T.1 + 1).toNat = T.1.toNat + 1 := by have := hi.1; omega
    have em : T.1 = ((T.1.toNat : Nat) : Int) := by have := hi.1; omega
    by_cases w : S' = S
    · subst w
      rw [if_pos rfl]
      refine ⟨(zbo ⟨p0, p1⟩ hR hR).2.1, (zbo ⟨p0, p1⟩ hR hR).2.2, fun R' r0 r1 => ?_⟩
      rw [(zbo ⟨p0, p1⟩ ⟨r0, r1⟩ hR).1, p2 R' r0 r1]
      show _ ↔ zfnd (upk T.2.1 T.1 R) (upk T.2.2 T.1 S') R' S' (T.1 + 1).toNat = false
      rw [e, zfnd.up em]
      cases c : zfnd T.2.1 T.2.2 R' S' T.1.toNat <;> simp
    · rw [if_neg w]
      refine ⟨p0, p1, fun R' r0 r1 => ?_⟩
      rw [p2 R' r0 r1]
      show _ ↔ zfnd (upk T.2.1 T.1 R) (upk T.2.2 T.1 S) R' S' (T.1 + 1).toNat = false
      have w2 : ¬ S = S' := fun e => w e.symm
      rw [e, zfnd.up em]
      cases c : zfnd T.2.1 T.2.2 R' S' T.1.toNat <;> simp [w2]
theorem zand0 : ∀ R : Nat, R < 8 → zand (zshr 0 (R : Int)) 1 = 0 := by decide +kernel
theorem zTT.nil {M : Mem} {t : Int} (h : M t 1 = 0) (hp : zFL M (M t 4) 512 0) : zTT M t (0, (fun _ => 0), (fun _ => 0)) := by
  refine ⟨h, fun k a b => absurd (show k < 0 from b) (by omega), fun S s0 s1 => ?_⟩
  rw [hp S s0 (by omega)]
  refine ⟨by decide, by decide, fun R r0 r1 => ?_⟩
  have z := zand0 R.toNat (by omega)
  rw [show ((R.toNat : Nat) : Int) = R by omega] at z
  exact ⟨fun _ => rfl, fun _ => z⟩
theorem zTT.stl {L N : Mem} {q : Int → Int} {t b k l l' r1 r2 x A B : Int} (h : zTT L t (zKl q b k l)) (hp : zTT N t (zput (zKl q b k l) r1 r2)) (h0k : 0 ≤ k ∧ k < 40) (hk : k < (zKk q b k).1) (h0 : 0 ≤ l) (e : l' = l + 1) (eA : L t 2 = A) (eB : L t 3 = B) (ex : x = zst q b l) (e1 : r1 = zmZ (L A k) x 3) (e2 : (l < q 0 → r2 = smeZ (q b)) ∧ (¬ l < q 0 → r2 = thnZ (L B k) (zst q b l) 9)) : zTT N t (zKl q b k l') := by
  subst eA eB ex
  obtain ⟨a1, a2⟩ := h.at (zKl_le q b k l) h0k.1 hk h0k.2
  rw [a1] at e1
  rw [a2] at e2
  have e3 : r2 = if l < q 0 then smeZ (q b) else thnZ ((zKl q b k l).2.2 k) (zst q b l) 9 := by
    by_cases c : l < q 0
    · rw [if_pos c]; exact e2.1 c
    · rw [if_neg c]; exact e2.2 c
  rw [zKl_s h0 e, ← e1, ← e3]
  exact hp
/-- what comes over a call and a return, noted for the first summaries -/
def zOV (M : Mem) (t : Int) (q : Int → Int) (b : Int) (T : zT3) (n : Int) : Prop := ∀ i c m, 0 ≤ i → i < n → 0 ≤ c → c < q 0 → 0 ≤ m → m < q 1 → M (M t 5) (4 * i + 2 * c + m) = zovZ (zks q b) c (q 0 + m) (T.2.2 i) 3
theorem zOV.nil {M : Mem} {t b : Int} {q : Int → Int} {T : zT3} : zOV M t q b T 0 := fun i c m a d => by omega
theorem zOV.cg {M : Mem} {t b n : Int} {q : Int → Int} {T T' : zT3} (h : zOV M t q b T n) (e : ∀ i, 0 ≤ i → i < n → T'.2.2 i = T.2.2 i) : zOV M t q b T' n := fun i c m a d f g p r => by rw [e i a d]; exact h i c m a d f g p r
theorem zOV.le {M : Mem} {t b n : Int} {q : Int → Int} {T T' : zT3} (h : zOV M t q b T n) (hl : zle T T') (hn : n ≤ T.1) : zOV M t q b T' n := h.cg (fun i a d => (hl.2.2 i a (by omega)).2)
theorem zOV.fr {L : List (Nat × Int)} {M N : Mem} {t b n : Int} {q : Int → Int} {T : zT3} (h : zOV M t q b T n) (hI : Inv false M) (hk : kd t = 21) (hF : Fr L M N) (hL : (!(fin L 21 5) && L.all (fun p => !(p.1 == 25))) = true) : zOV N t q b T n := by
  simp only [Bool.and_eq_true, Bool.not_eq_true'] at hL
  unfold zOV
  rw [hF.e hk 5 hL.1, hF.fn (Inv.r hI hk rfl 5 rfl rfl) hL.2]
  exact h
def zOW (M : Mem) (A : Int) (q : Int → Int) (b : Int) (T : zT3) (k c m : Int) : Prop := (∀ i c m, 0 ≤ i → i < k → 0 ≤ c → c < q 0 → 0 ≤ m → m < q 1 → M A (4 * i + 2 * c + m) = zovZ (zks q b) c (q 0 + m) (T.2.2 i) 3) ∧ ∀ c' m', 0 ≤ c' → 0 ≤ m' → m' < q 1 → (c' < c ∨ (c' = c ∧ m' < m)) → M A (4 * k + 2 * c' + m') = zovZ (zks q b) c' (q 0 + m') (T.2.2 k) 3
theorem zOW.nil {M : Mem} {t b k A : Int} {q : Int → Int} {T : zT3} (h : zOV M t q b T k) (e : M t 5 = A) : zOW M A q b T k 0 0 := by
  subst e
  exact ⟨h, fun c m a d f g => by omega⟩
theorem zOW.st {L N : Mem} {A b k c m m' p v : Int} {q : Int → Int} {T : zT3} (h : zOW L A q b T k c m) (u : ∀ j, N A j = if j = p then v else L A j) (ep : p = 4 * k + 2 * c + m) (hv : v = zovZ (zks q b) c (q 0 + m) (T.2.2 k) 3) (h1 : 0 ≤ m) (h2 : q 0 ≤ 2 ∧ q 1 ≤ 2) (hc : 0 ≤ c ∧ c < q 0) (hm : m < q 1) (e : m' = m + 1) : zOW N A q b T k c m' := by
  subst e ep hv
  refine ⟨fun i c2 m2 a d f g x y => ?_, fun c2 m2 a d f g => ?_⟩
  · rw [u, if_neg (by omega)]; exact h.1 i c2 m2 a d f g x y
  · by_cases z : c2 = c ∧ m2 = m
    · rw [z.1, z.2, u, if_pos rfl]
    · rw [u, if_neg (by omega)]; exact h.2 c2 m2 a d f (by omega)
theorem zOW.row {L : Mem} {A b k c c' m : Int} {q : Int → Int} {T : zT3} (h : zOW L A q b T k c m) (hm : q 1 ≤ m) (e : c' = c + 1) : zOW L A q b T k c' 0 := ⟨h.1, fun c2 m2 a d f g => h.2 c2 m2 a d f (by omega)⟩
theorem zOW.end {L : Mem} {t A b k k' c : Int} {q : Int → Int} {T : zT3} (h : zOW L A q b T k c 0) (hc : q 0 ≤ c) (e : L t 5 = A) (ek : k' = k + 1) : zOV L t q b T k' := fun i c2 m2 a d f g x y => by
  rw [e]
  by_cases z : i = k
  · rw [z]; exact h.2 c2 m2 f x y (Or.inl (by omega))
  · exact h.1 i c2 m2 a (by omega) f g x y
theorem zOW.cv {L : Mem} {A b k c c' m m' : Int} {q : Int → Int} {T : zT3} (h : zOW L A q b T k c m) (e : c' = c) (e' : m' = m) : zOW L A q b T k c' m' := by subst e e'; exact h
theorem zovA {M : Mem} {x b c l y : Int} {q : Int → Int} (hA : AT M x q b) (hc : 0 ≤ c ∧ c ≤ 5) (hl : 0 ≤ l ∧ l ≤ 5) : zovZ (M (M x 11)) c l y 3 = zovZ (zks q b) c l y 3 := (zov.cg 3 (fun e a d => ⟨(hA.kl hc ⟨a, by omega⟩).symm, (hA.kl hl ⟨a, by omega⟩).symm⟩)).symm
theorem zTT.m0 {N : Mem} {q : Int → Int} {t b k j c l m m' : Int} (h : zTT N t (zBk (zks q b) (zKm q b k j c m) k j c l)) (hj : ¬ j < k) (h0 : 0 ≤ m) (e : m' = m + 1) (el : l = q 0 + m) : zTT N t (zKm q b k j c m') := by
  rw [zKm_s h0 e, ← el]
  unfold zTt2
  rw [if_neg hj]
  exact h
theorem zTT.m1 {N : Mem} {q : Int → Int} {t b k j c l m m' : Int} (h : zTT N t (zBk (zks q b) (zBk (zks q b) (zKm q b k j c m) k j c l) j k c l)) (hj : j < k) (h0 : 0 ≤ m) (e : m' = m + 1) (el : l = q 0 + m) : zTT N t (zKm q b k j c m') := by
  rw [zKm_s h0 e, ← el]
  unfold zTt2
  rw [if_pos hj]
  exact h
theorem zTT.bk {N : Mem} {K : Int → Int} {T : zT3} {t k j c l ro : Int} (hp : zTT N t (zput T (zmZ (T.2.1 j) ro 3) (thnZ (T.2.2 j) ro 9))) (e : ro = zovZ K c l (T.2.2 k) 3) : zTT N t (zBk K T k j c l) := by
  subst e
  exact hp
/-! a table that is known -/
def zTV (M : Mem) (t : Int) (T : zT3) : Prop := M t 1 = T.1 ∧ ∀ k, 0 ≤ k → k < T.1 → k < 40 → M (M t 2) k = T.2.1 k ∧ M (M t 3) k = T.2.2 k
theorem zTT.v {M : Mem} {t : Int} {T : zT3} (h : zTT M t T) : zTV M t T := ⟨h.1, h.2.1⟩
theorem zTV.fit {N : Mem} {t : Int} {T : zT3} {R S R' S' v r : Int} (h : zTV N t T) (hn : T.1 ≤ 40) (hf : N t 1 ≤ 40 → zFI (N (N t 2)) (N (N t 3)) (N t 1) R S v) (eR : R = R') (eS : S = S') (e : r = v) : zfit T R' S' r := by
  subst eR eS e
  have f := zFI.cg (hf (by rw [h.1]; exact hn)) (r' := T.2.1) (s' := T.2.2) (fun k a b => ⟨(h.2 k a (by rw [← h.1]; exact b) (by have := h.1; omega)).1.symm, (h.2 k a (by rw [← h.1]; exact b) (by have := h.1; omega)).2.symm⟩)
  rw [h.1] at f
  exact f
