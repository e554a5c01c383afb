theorem LD.fr {L : List (Nat × Int)} {M N : Mem} (h : LD M) (hF : Fr L M N) (h1 : L.all (fun p => !(p.1 == 65)) = true) (h2 : L.all (fun p => !(p.1 == 72)) = true) : LD N := by
  have e : N 164 = M 164 := funext (fun j => hF.e kd_164 j (fin_no h1))
  intro i h0 h3
  rw [e, hF.e kd_171 i (fin_no h2)]; exact h i h0 h3
theorem LD.lead {M : Mem} (h : LD M) {b l s : Int} (hb : 0 ≤ b ∧ b ≤ 1) (hl : 0 ≤ l ∧ l ≤ 5) : leadZ (M 171) (54 * b + 9 * l) s 9 = leadZ (laid (M 164)) (54 * b + 9 * l) s 9 := lead_cong 9 (fun i hi => h _ (by omega) (by omega))
theorem LD.ovv {M : Mem} (h : LD M) {b x c l : Int} (hb : 0 ≤ b ∧ b ≤ 1) (hc : 0 ≤ c ∧ c ≤ 5) (hl : 0 ≤ l ∧ l ≤ 5) : ovr (M 171) b x c l = ovr (laid (M 164)) b x c l := by
  unfold ovr ovt
  simp only [h.lead hb hc, h.lead hb hl]
/-! the table -/
def HasS (N : Mem) (v : Int) : Prop := ∃ j, 0 ≤ j ∧ j < N 163 35 ∧ N 182 j = v
def PI (N M : Mem) (v : Int) : Prop := (M 163 35 ≤ N 163 35) ∧ (∀ j, 0 ≤ j → j < M 163 35 → N 182 j = M 182 j) ∧ (N 163 35 ≤ 40 → HasS N v)
theorem PI.new {N M : Mem} {v m : Int} (hm : m = M 163 35) (h0 : 0 ≤ m) (h1 : N 163 35 = m + 1) (h2 : ∀ j, ¬ j = m → N 182 j = M 182 j) (h3 : N 182 m = v) : PI N M v := ⟨by omega, fun j _ hj => h2 j (by omega), fun _ => ⟨m, h0, by omega, h3⟩⟩
/-- what was looked at: inner letters; calls and returns -/
def T1 (N P : Mem) (a K L : Int) : Prop := ∀ k l, 0 ≤ k → (k < K ∨ (k = K ∧ l < L)) → P 164 0 + P 164 1 ≤ l → l < P 164 0 + P 164 1 + P 164 2 → N 163 35 ≤ 40 → HasS N (thnZ (N 182 k) (leadZ (P 171) (54 * a + 9 * l) 8 9) 9)
def T2 (N P : Mem) (a K J C L : Int) : Prop := ∀ k j c l, 0 ≤ j → j ≤ k → (k < K ∨ (k = K ∧ (j < J ∨ (j = J ∧ (c < C ∨ (c = C ∧ l < L)))))) → 0 ≤ c → c < P 164 0 → P 164 0 ≤ l → l < P 164 0 + P 164 1 → N 163 35 ≤ 40 → HasS N (thnZ (N 182 j) (ovr (P 171) a (N 182 k) c l) 9) ∧ HasS N (thnZ (N 182 k) (ovr (P 171) a (N 182 j) c l) 9)
theorem T1.at {N P : Mem} {a K L K' L' : Int} (h : T1 N P a K L) (h' : ∀ k l, 0 ≤ k → (k < K' ∨ (k = K' ∧ l < L')) → P 164 0 + P 164 1 ≤ l → l < P 164 0 + P 164 1 + P 164 2 → (k < K ∨ (k = K ∧ l < L))) : T1 N P a K' L' := fun k l h0 h1 h2 h3 h4 => h k l h0 (h' k l h0 h1 h2 h3) h2 h3 h4
theorem T2.at {N P : Mem} {a K J C L K' J' C' L' : Int} (h : T2 N P a K J C L) (h' : N 163 35 ≤ 40 → ∀ k j c l, 0 ≤ j → j ≤ k → (k < K' ∨ (k = K' ∧ (j < J' ∨ (j = J' ∧ (c < C' ∨ (c = C' ∧ l < L')))))) → 0 ≤ c → c < P 164 0 → P 164 0 ≤ l → l < P 164 0 + P 164 1 → (k < K ∨ (k = K ∧ (j < J ∨ (j = J ∧ (c < C ∨ (c = C ∧ l < L))))))) : T2 N P a K' J' C' L' := fun k j c l h0 h1 h2 h3 h4 h5 h6 h7 => h k j c l h0 h1 (h' h7 k j c l h0 h1 h2 h3 h4 h5 h6) h3 h4 h5 h6 h7
/-- a table that stands is closed -/
theorem Clo.of {N P : Mem} {a K : Int} (hI : Inv true N) (hL : LD P) (hA : N 163 35 ≤ 40) (ha : 0 ≤ a ∧ a ≤ 1) (hK : N 163 35 ≤ K) (h1 : T1 N P a K 0) (h2 : T2 N P a K 0 0 0) (hE : HasS N (smeZ (P 164 (100 + 85 * a)))) (hp : (0 ≤ P 164 0 ∧ P 164 0 ≤ 2) ∧ (0 ≤ P 164 1 ∧ P 164 1 ≤ 2) ∧ (0 ≤ P 164 2 ∧ P 164 2 ≤ 2)) : Clo (P 164) a := by
  have hm : ∀ v, v ∈ (List.range (N 163 35).toNat).map (fun i : Nat => N 182 (i : Int)) ↔ HasS N v := by
    intro v
    rw [List.mem_map]
    constructor
    · rintro ⟨i, hi, rfl⟩
      have := List.mem_range.mp hi
      exact ⟨i, by omega, by omega, rfl⟩
    · rintro ⟨j, h0, h1, h2⟩
      exact ⟨j.toNat, List.mem_range.mpr (by omega), by rw [show ((j.toNat : Nat) : Int) = j by omega]; exact h2⟩
  refine ⟨(List.range (N 163 35).toNat).map (fun i : Nat => N 182 (i : Int)), by rw [List.length_map, List.length_range]; omega, ?_, (hm _).mpr hE, ?_, ?_⟩
  · intro S hS
    obtain ⟨j, h0, h1, rfl⟩ := (hm S).mp hS
    have := Inv.g hI kd_182 rfl j (a := 0) (b := 511) rfl rfl
    exact ⟨by omega, by omega⟩
  · intro S hS l h3 h4
    obtain ⟨j, h0, h5, rfl⟩ := (hm S).mp hS
    rw [← hL.lead ha (by omega)]
    exact (hm _).mpr (h1 j l h0 (by omega) h3 h4 hA)
  · intro S hS K' hK' c l h3 h4 h5 h6
    obtain ⟨j, h0, h7, rfl⟩ := (hm S).mp hS
    obtain ⟨i, h8, h9, rfl⟩ := (hm K').mp hK'
    rw [← hL.ovv ha (by omega) (by omega)]
    by_cases e : j ≤ i
    · exact (hm _).mpr (h2 i j c l h0 e (by omega) h3 h4 h5 h6 hA).1
    · exact (hm _).mpr (h2 j i c l h8 (by omega) (by omega) h3 h4 h5 h6 hA).2
def HS (N P : Mem) (a : Int) : Prop := N 163 35 ≤ 40 → HasS N (smeZ (P 164 (100 + 85 * a)))
theorem HS.new {N P Q : Mem} {a v : Int} (hp : PI Q N v) (hv : v = smeZ (P 164 (100 + 85 * a))) : HS Q P a := fun q => hv ▸ hp.2.2 q
def RQ (N P : Mem) : Prop := N 171 = P 171
theorem RQ.fr {L : List (Nat × Int)} {M N P : Mem} (h : RQ M P) (hF : Fr L M N) (hL : L.all (fun p => !(p.1 == 72)) = true) : RQ N P := (funext (fun j => hF.e kd_171 j (fin_no hL)) : N 171 = M 171).trans h
