theorem thn_z {x y i : Int} (h : i = 0) : (0 : Int) = thnZ x y i := by subst h; rfl
theorem lead_z {f : Int → Int} {b s i : Int} (h : i = 0) : (0 : Int) = leadZ f b s i := by subst h; rfl
theorem sme_z {i : Int} (h : i = 0) : (0 : Int) = smeZ i := by subst h; rfl
/-! the rules are laid -/
def LZ (N : Mem) (k : Int) : Prop := ∀ i, 0 ≤ i → i < k → N 171 i = 0
def LF (N : Mem) (f : Int → Int) : Prop := ∀ i, 0 ≤ i → i < 162 → N 171 i = f i
def LG (N : Mem) (A : Int → Int) : Prop := ∀ i, 0 ≤ i → i < 108 → N 171 i = laid A i
theorem LZ.step {N Q : Mem} {k i k' : Int} (h : LZ N k) (hM : Q = mu N 171 i 0) (hi : i = k) (hk : k' = k + 1) : LZ Q k' := by
  subst hM hi hk
  intro j h0 h1
  by_cases e : j = i
  · subst e; rw [mu_s]
  · rw [mu_i e]; exact h j h0 (by omega)
theorem LZ.done {N : Mem} {k x : Int} {A : Int → Int} (h : LZ N k) (hk : 162 ≤ k) (hx : x = 0) : LF N (layA A x.toNat) := by
  subst hx
  intro i h0 h1
  rw [h i h0 (by omega)]; rfl
theorem LF.st8 {N Q : Mem} {A f : Int → Int} {a k k' j w s : Int} (h : LF N (lay1 A a f k.toNat)) (h0 : 0 ≤ k) (hM : Q = mu N 171 j w) (hj : j = rpl A a k) (hr : 0 ≤ j ∧ j < 162) (hw : w = zor (N 171 j) 8) (hs : s = 108 + 85 * a + 4 * k) (h8 : A s = -1) (hk : k' = k + 1) : LF Q (lay1 A a f k'.toNat) := by
  subst hM hk hw hs
  intro i hi1 hi2
  rw [show (k + 1).toNat = k.toNat + 1 by omega]
  show _ = if i = rpl A a k.toNat then zor (lay1 A a f k.toNat i) (rbit (A (108 + 85 * a + 4 * (k.toNat : Int)))) else lay1 A a f k.toNat i
  rw [show ((k.toNat : Nat) : Int) = k by omega]
  by_cases e : i = j
  · subst e
    rw [mu_s, if_pos hj, h i hi1 hi2]; unfold rbit; rw [if_pos h8]
  · rw [mu_i e, if_neg (by rw [← hj]; exact e)]; exact h i hi1 hi2
theorem LF.sts {N Q : Mem} {A f : Int → Int} {a k k' j w s : Int} (h : LF N (lay1 A a f k.toNat)) (h0 : 0 ≤ k) (hM : Q = mu N 171 j w) (hj : j = rpl A a k) (hr : 0 ≤ j ∧ j < 162) (hs : s = 108 + 85 * a + 4 * k) (hw : w = zor (N 171 j) (zshl 1 (A s))) (h8 : ¬ A s = -1) (hk : k' = k + 1) : LF Q (lay1 A a f k'.toNat) := by
  subst hM hk hw hs
  intro i hi1 hi2
  rw [show (k + 1).toNat = k.toNat + 1 by omega]
  show _ = if i = rpl A a k.toNat then zor (lay1 A a f k.toNat i) (rbit (A (108 + 85 * a + 4 * (k.toNat : Int)))) else lay1 A a f k.toNat i
  rw [show ((k.toNat : Nat) : Int) = k by omega]
  by_cases e : i = j
  · subst e
    rw [mu_s, if_pos hj, h i hi1 hi2]; unfold rbit; rw [if_neg h8]
  · rw [mu_i e, if_neg (by rw [← hj]; exact e)]; exact h i hi1 hi2
theorem LF.begin {N : Mem} {A : Int → Int} {a k : Int} (h : LF N (layA A a.toNat)) (hk : k = 0) : LF N (lay1 A a (layA A a.toNat) k.toNat) := by subst hk; exact h
theorem LF.next {N : Mem} {A : Int → Int} {a k a' : Int} (h : LF N (lay1 A a (layA A a.toNat) k.toNat)) (h0 : 0 ≤ a) (hk : k = A (104 + 85 * a)) (ha : a' = a + 1) : LF N (layA A a'.toNat) := by
  subst ha
  rw [show (a + 1).toNat = a.toNat + 1 by omega]
  show LF N (lay1 A (a.toNat : Int) (layA A a.toNat) (A (104 + 85 * ((a.toNat : Nat) : Int))).toNat)
  rw [show ((a.toNat : Nat) : Int) = a by omega, ← hk]; exact h
theorem LF.done {N : Mem} {A : Int → Int} {a : Int} (h : LF N (layA A a.toNat)) (ha : a = A 3) : LG N A := by
  subst ha
  exact fun i h0 h1 => h i h0 (by omega)
theorem LG.st {N Q : Mem} {A : Int → Int} {j w : Int} (h : LG N A) (hM : Q = mu N 171 j w) (hj : 108 ≤ j) : LG Q A := fun i h0 h1 => by rw [hM, mu_i (by omega)]; exact h i h0 h1
theorem LG.ld {L : List (Nat × Int)} {M N : Mem} (h : LG N (M 164)) (hF : Fr L M N) (hL : L.all (fun p => !(p.1 == 65)) = true) : LD N := by
  have e : N 164 = M 164 := funext (fun j => hF.e kd_164 j (fin_no hL))
  intro i h0 h1
  rw [e]; exact h i h0 h1
theorem LD.fr {L : List (Nat × Int)} {M N : Mem} (h : LD M) (hF : Fr L M N) (h1 : L.all (fun p => !(p.1 == 65)) = true) (h2 : L.all (fun p => !(p.1 == 72)) = true) : LD N := by
  have e : N 164 = M 164 := funext (fun j => hF.e kd_164 j (fin_no h1))
  intro i h0 h3
  rw [e, hF.e kd_171 i (fin_no h2)]; exact h i h0 h3
theorem LD.st {M N : Mem} {c i v : Int} {k : Nat} (h : LD M) (hM : N = mu M c i v) (hk : kd c = k) (h1 : (65 == k) = false) (h2 : (72 == k) = false) : LD N := by
  have e : N 164 = M 164 := funext (fun j => by rw [hM, mu_k kd_164 hk h1])
  intro j h0 h3
  rw [e, hM, mu_k kd_171 hk h2]; exact h j h0 h3
theorem LD.lead {M : Mem} (h : LD M) {b l s : Int} (hb : 0 ≤ b ∧ b ≤ 1) (hl : 0 ≤ l ∧ l ≤ 5) : leadZ (M 171) (54 * b + 9 * l) s 9 = leadZ (laid (M 164)) (54 * b + 9 * l) s 9 := lead_cong 9 (fun i hi => h _ (by omega) (by omega))
theorem LD.ovv {M : Mem} (h : LD M) {b x c l : Int} (hb : 0 ≤ b ∧ b ≤ 1) (hc : 0 ≤ c ∧ c ≤ 5) (hl : 0 ≤ l ∧ l ≤ 5) : ovr (M 171) b x c l = ovr (laid (M 164)) b x c l := by
  unfold ovr ovt
  simp only [h.lead hb hc, h.lead hb hl]
/-! the table -/
def HasS (N : Mem) (v : Int) : Prop := ∃ j, 0 ≤ j ∧ j < N 163 35 ∧ N 182 j = v
def PI (N M : Mem) (v : Int) : Prop := (M 163 35 ≤ N 163 35) ∧ (∀ j, 0 ≤ j → j < M 163 35 → N 182 j = M 182 j) ∧ (N 163 35 ≤ 40 → HasS N v)
theorem PI.has {N M : Mem} {v w : Int} (h : PI N M v) (hw : HasS M w) : HasS N w := by
  obtain ⟨j, h0, h1, h2⟩ := hw
  exact ⟨j, h0, by have := h.1; omega, by rw [h.2.1 j h0 h1]; exact h2⟩
theorem PI.full {M : Mem} {v : Int} (h : 40 < M 163 35) : PI M M v := ⟨Int.le_refl _, fun _ _ _ => rfl, fun h2 => absurd h2 (by omega)⟩
theorem PI.found {M : Mem} {v r : Int} (h0 : 0 ≤ r) (h1 : r < M 163 35) (h2 : M 182 r = v) : PI M M v := ⟨Int.le_refl _, fun _ _ _ => rfl, fun _ => ⟨r, h0, h1, h2⟩⟩
theorem PI.new {N M : Mem} {v m : Int} (hm : m = M 163 35) (h0 : 0 ≤ m) (h1 : N 163 35 = m + 1) (h2 : ∀ j, ¬ j = m → N 182 j = M 182 j) (h3 : N 182 m = v) : PI N M v := ⟨by omega, fun j _ hj => h2 j (by omega), fun _ => ⟨m, h0, by omega, h3⟩⟩
/-- what was looked at: inner letters; calls and returns -/
def T1 (N P : Mem) (a K L : Int) : Prop := ∀ k l, 0 ≤ k → (k < K ∨ (k = K ∧ l < L)) → P 164 0 + P 164 1 ≤ l → l < P 164 0 + P 164 1 + P 164 2 → N 163 35 ≤ 40 → HasS N (thnZ (N 182 k) (leadZ (P 171) (54 * a + 9 * l) 8 9) 9)
def T2 (N P : Mem) (a K J C L : Int) : Prop := ∀ k j c l, 0 ≤ j → j ≤ k → (k < K ∨ (k = K ∧ (j < J ∨ (j = J ∧ (c < C ∨ (c = C ∧ l < L)))))) → 0 ≤ c → c < P 164 0 → P 164 0 ≤ l → l < P 164 0 + P 164 1 → N 163 35 ≤ 40 → HasS N (thnZ (N 182 j) (ovr (P 171) a (N 182 k) c l) 9) ∧ HasS N (thnZ (N 182 k) (ovr (P 171) a (N 182 j) c l) 9)
theorem T1.mono {N P Q : Mem} {a K L v : Int} (h : T1 N P a K L) (hp : PI Q N v) (hK : K < N 163 35) : T1 Q P a K L := by
  intro k l h0 h1 h2 h3 h4
  rw [hp.2.1 k h0 (by omega)]
  exact hp.has (h k l h0 h1 h2 h3 (by have := hp.1; omega))
theorem T2.mono {N P Q : Mem} {a K J C L v : Int} (h : T2 N P a K J C L) (hp : PI Q N v) (hK : K < N 163 35) : T2 Q P a K J C L := by
  intro k j c l h0 h1 h2 h3 h4 h5 h6 h7
  have q := h k j c l h0 h1 h2 h3 h4 h5 h6 (by have := hp.1; omega)
  rw [hp.2.1 k (by omega) (by omega), hp.2.1 j h0 (by omega)]
  exact ⟨hp.has q.1, hp.has q.2⟩
theorem T1.step {N P Q : Mem} {a K L L' v : Int} (h : T1 N P a K L) (hp : PI Q N v) (hK : 0 ≤ K ∧ K < N 163 35) (hL : L' = L + 1) (hv : P 164 0 + P 164 1 ≤ L → v = thnZ (N 182 K) (leadZ (P 171) (54 * a + 9 * L) 8 9) 9) : T1 Q P a K L' := by
  subst hL
  intro k l h0 h1 h2 h3 h4
  by_cases e : k = K ∧ l = L
  · obtain ⟨rfl, rfl⟩ := e
    rw [hp.2.1 k h0 (by omega), ← hv h2]
    exact hp.2.2 h4
  · exact h.mono hp hK.2 k l h0 (by omega) h2 h3 h4
theorem T2.step {N P Q R : Mem} {a K J C L L' v w : Int} (h : T2 N P a K J C L) (hp : PI Q N v) (hq : PI R Q w) (hK : 0 ≤ J ∧ J ≤ K ∧ K < N 163 35) (hL : L' = L + 1) (hv : v = thnZ (N 182 J) (ovr (P 171) a (N 182 K) C L) 9) (hw : w = thnZ (N 182 K) (ovr (P 171) a (N 182 J) C L) 9) : T2 R P a K J C L' := by
  subst hL
  intro k j c l h0 h1 h2 h3 h4 h5 h6 h7
  have e1 := hp.1
  have e2 := hq.1
  by_cases e : k = K ∧ j = J ∧ c = C ∧ l = L
  · obtain ⟨rfl, rfl, rfl, rfl⟩ := e
    rw [hq.2.1 k (by omega) (by omega), hq.2.1 j h0 (by omega), hp.2.1 k (by omega) (by omega), hp.2.1 j h0 (by omega), ← hv, ← hw]
    exact ⟨hq.has (hp.2.2 (by omega)), hq.2.2 h7⟩
  · exact (h.mono hp hK.2.2).mono hq (by omega) k j c l h0 h1 (by omega) h3 h4 h5 h6 h7
theorem T2.step1 {N P Q : Mem} {a K J C L L' v : Int} (h : T2 N P a K J C L) (hp : PI Q N v) (hK : 0 ≤ J ∧ J = K ∧ K < N 163 35) (hL : L' = L + 1) (hv : v = thnZ (N 182 J) (ovr (P 171) a (N 182 K) C L) 9) : T2 Q P a K J C L' := by
  obtain ⟨h0, rfl, h2⟩ := hK
  exact h.step hp ⟨Int.le_refl _, fun _ _ _ => rfl, fun q => by rw [← hv]; exact hp.2.2 q⟩ ⟨h0, Int.le_refl _, h2⟩ hL hv (w := thnZ (N 182 J) (ovr (P 171) a (N 182 J) C L) 9) rfl
theorem T1.at {N P : Mem} {a K L K' L' : Int} (h : T1 N P a K L) (h' : ∀ k l, 0 ≤ k → (k < K' ∨ (k = K' ∧ l < L')) → P 164 0 + P 164 1 ≤ l → l < P 164 0 + P 164 1 + P 164 2 → (k < K ∨ (k = K ∧ l < L))) : T1 N P a K' L' := fun k l h0 h1 h2 h3 h4 => h k l h0 (h' k l h0 h1 h2 h3) h2 h3 h4
theorem T2.at {N P : Mem} {a K J C L K' J' C' L' : Int} (h : T2 N P a K J C L) (h' : N 163 35 ≤ 40 → ∀ k j c l, 0 ≤ j → j ≤ k → (k < K' ∨ (k = K' ∧ (j < J' ∨ (j = J' ∧ (c < C' ∨ (c = C' ∧ l < L')))))) → 0 ≤ c → c < P 164 0 → P 164 0 ≤ l → l < P 164 0 + P 164 1 → (k < K ∨ (k = K ∧ (j < J ∨ (j = J ∧ (c < C ∨ (c = C ∧ l < L))))))) : T2 N P a K' J' C' L' := fun k j c l h0 h1 h2 h3 h4 h5 h6 h7 => h k j c l h0 h1 (h' h7 k j c l h0 h1 h2 h3 h4 h5 h6) h3 h4 h5 h6 h7
theorem T1.nil {N P : Mem} {a K L : Int} (hK : K = 0) (hL : L ≤ 0) (h0 : 0 ≤ P 164 0 ∧ 0 ≤ P 164 1) : T1 N P a K L := fun k l h h1 h2 _ _ => by omega
theorem T2.nil {N P : Mem} {a K J C L : Int} (hK : K = 0) (hJ : J ≤ 0) (hC : C ≤ 0) (hL : L ≤ 0) (h0 : 0 ≤ P 164 0) : T2 N P a K J C L := fun k j c l h h1 h2 h3 h4 h5 _ _ => by omega
/-- a table that stands is closed -/
theorem Clo.of {N P : Mem} {a K : Int} (hI : Inv true N) (hL : LD P) (hA : N 163 35 ≤ 40) (ha : 0 ≤ a ∧ a ≤ 1) (hK : N 163 35 ≤ K) (h1 : T1 N P a K 0) (h2 : T2 N P a K 0 0 0) (hE : HasS N (smeZ (P 164 (100 + 85 * a)))) (hp : (0 ≤ P 164 0 ∧ P 164 0 ≤ 2) ∧ (0 ≤ P 164 1 ∧ P 164 1 ≤ 2) ∧ (0 ≤ P 164 2 ∧ P 164 2 ≤ 2)) : Clo (P 164) a := by
  have hm : ∀ v, v ∈ (List.range (N 163 35).toNat).map (fun i : Nat => N 182 (i : Int)) ↔ HasS N v := by
    intro v
    rw [List.mem_map]
    constructor
    · rintro ⟨i, hi, rfl⟩
      have := List.mem_range.mp hi
      exact ⟨i, by omega, by omega, rfl⟩
    · rintro ⟨j, h0, h1, h2⟩
      exact ⟨j.toNat, List.mem_range.mpr (by omega), by rw [show ((j.toNat : Nat) : Int) = j by omega]; exact h2⟩
  refine ⟨(List.range (N 163 35).toNat).map (fun i : Nat => N 182 (i : Int)), by rw [List.length_map, List.length_range]; omega, ?_, (hm _).mpr hE, ?_, ?_⟩
  · intro S hS
    obtain ⟨j, h0, h1, rfl⟩ := (hm S).mp hS
    have := Inv.g hI kd_182 rfl j (a := 0) (b := 511) rfl rfl
    exact ⟨by omega, by omega⟩
  · intro S hS l h3 h4
    obtain ⟨j, h0, h5, rfl⟩ := (hm S).mp hS
    rw [← hL.lead ha (by omega)]
    exact (hm _).mpr (h1 j l h0 (by omega) h3 h4 hA)
  · intro S hS K' hK' c l h3 h4 h5 h6
    obtain ⟨j, h0, h7, rfl⟩ := (hm S).mp hS
    obtain ⟨i, h8, h9, rfl⟩ := (hm K').mp hK'
    rw [← hL.ovv ha (by omega) (by omega)]
    by_cases e : j ≤ i
    · exact (hm _).mpr (h2 i j c l h0 e (by omega) h3 h4 h5 h6 hA).1
    · exact (hm _).mpr (h2 j i c l h8 (by omega) (by omega) h3 h4 h5 h6 hA).2
def HS (N P : Mem) (a : Int) : Prop := N 163 35 ≤ 40 → HasS N (smeZ (P 164 (100 + 85 * a)))
theorem HS.mono {N P Q : Mem} {a v : Int} (h : HS N P a) (hp : PI Q N v) : HS Q P a := fun q => hp.has (h (by have := hp.1; omega))
theorem HS.new {N P Q : Mem} {a v : Int} (hp : PI Q N v) (hv : v = smeZ (P 164 (100 + 85 * a))) : HS Q P a := fun q => hv ▸ hp.2.2 q
def RQ (N P : Mem) : Prop := N 171 = P 171
theorem RQ.fr {L : List (Nat × Int)} {M N P : Mem} (h : RQ M P) (hF : Fr L M N) (hL : L.all (fun p => !(p.1 == 72)) = true) : RQ N P := (funext (fun j => hF.e kd_171 j (fin_no hL)) : N 171 = M 171).trans h
theorem RQ.st {M N P : Mem} {c i v : Int} {k : Nat} (h : RQ M P) (hM : N = mu M c i v) (hk : kd c = k) (h1 : (72 == k) = false) : RQ N P := (funext (fun j => by rw [hM, mu_k kd_171 hk h1]) : N 171 = M 171).trans h

