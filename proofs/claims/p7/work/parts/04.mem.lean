/-! the cells and their kinds, by program -/
def kdl : List Nat := [62, 13, 14, 15, 16, 17, 18, 19, 20, 63, 21, 22, 23, 24, 25, 21, 22, 23, 24, 25, 41, 42, 43, 1, 2, 3, 4, 5, 6, 7, 26, 27, 28, 29, 30, 36, 37, 38, 39, 40, 31, 32, 33, 34, 35, 44, 45, 46, 47, 48, 49, 50, 51, 52, 53, 54, 55, 8, 9, 10, 11, 56, 57, 58, 59, 60, 61, 61, 12, 1, 2, 3, 4, 5, 6, 7, 1, 2, 3, 4, 5, 6, 7, 8, 9, 10, 11, 12, 1, 2, 3, 4, 5, 6, 7, 1, 2, 3, 4, 5, 6, 7, 8, 9, 10, 11, 12, 1, 2, 3, 4, 5, 6, 7, 1, 2, 3, 4, 5, 6, 7, 8, 9, 10, 11, 12, 1, 2, 3, 4, 5, 6, 7, 1, 2, 3, 4, 5, 6, 7, 8, 9, 10, 11, 12, 1, 2, 3, 4, 5, 6, 7, 1, 2, 3, 4, 5, 6, 7, 8, 9, 10, 11, 64, 65, 66, 67, 68, 69, 70, 71, 72, 73, 74, 75, 76, 77, 78, 79, 79, 80, 81, 82, 83, 84, 85, 85, 86, 87, 87, 88, 88, 89, 90]
def kAl : List (Option (Nat × Nat)) := [none, none, some (0, 20), some (0, 20), some (0, 20), some (0, 20), some (0, 6), some (0, 18), none, some (0, 30), some (0, 30), some (0, 30), none, none, some (2, 240), some (0, 4), some (0, 4), none, some (1, 900), some (0, 6), some (0, 6), none, some (0, 40), some (0, 40), some (0, 512), some (0, 160), none, some (0, 576), some (0, 576), some (0, 576), some (0, 576), none, some (0, 48), some (0, 48), some (0, 48), some (0, 48), none, some (0, 576), some (0, 576), some (0, 576), some (0, 576), none, some (0, 16), some (0, 16), some (0, 64), some (0, 512), some (0, 7), none, some (0, 187), some (0, 187), some (0, 7), some (0, 750), some (0, 750), some (0, 7), some (0, 112), some (0, 112), none, some (2, 9), some (2, 9), some (2, 180), some (0, 20), some (2, 3), none, some (3, 3), none, some (0, 1360), some (2, 36), some (0, 4), some (0, 4), some (2, 240), some (1, 900), some (1, 900), some (0, 162), some (0, 42), some (0, 42), some (0, 21), some (0, 21), some (2, 63), some (2, 189), some (2, 9), some (0, 20), some (0, 41), some (0, 41), some (0, 81), some (0, 81), some (0, 9), some (0, 64), some (0, 576), some (0, 24), some (0, 6), some (0, 7)]
def kCl : List Nat := [0, 0, 0, 0, 0, 0, 0, 0, 9, 0, 0, 0, 4, 8, 0, 0, 0, 1, 0, 0, 0, 6, 0, 0, 0, 0, 5, 0, 0, 0, 0, 5, 0, 0, 0, 0, 5, 0, 0, 0, 0, 3, 0, 0, 0, 0, 0, 7, 0, 0, 0, 0, 0, 0, 0, 0, 2, 0, 0, 0, 0, 0, 10, 0, 11, 0, 0, 0, 0, 0, 0, 0, 0, 0, 0, 0, 0, 0, 0, 0, 0, 0, 0, 0, 0, 0, 0, 0, 0, 0, 0]
def kNl : List Nat := [0, 12, 0, 0, 0, 0, 0, 0, 8, 0, 0, 0, 7, 3, 0, 0, 0, 12, 0, 0, 0, 6, 0, 0, 0, 0, 5, 0, 0, 0, 0, 5, 0, 0, 0, 0, 5, 0, 0, 0, 0, 17, 0, 0, 0, 0, 0, 13, 0, 0, 0, 0, 0, 0, 0, 0, 7, 0, 0, 0, 0, 0, 15, 0, 51, 0, 0, 0, 0, 0, 0, 0, 0, 0, 0, 0, 0, 0, 0, 0, 0, 0, 0, 0, 0, 0, 0, 0, 0, 0, 0]
def kTl : List (List Nat) := [[], [0, 0, 0, 0, 0, 0, 2, 2, 2, 2, 2, 2], [], [], [], [], [], [], [0, 0, 0, 0, 0, 2, 2, 2], [], [], [], [0, 0, 0, 0, 2, 2, 2], [2, 2, 2], [], [], [], [2, 0, 0, 0, 2, 0, 0, 0, 0, 0, 2, 2], [], [], [], [0, 0, 2, 2, 2, 2], [], [], [], [], [0, 2, 2, 2, 2], [], [], [], [], [0, 2, 2, 2, 2], [], [], [], [], [0, 2, 2, 2, 2], [], [], [], [], [2, 2, 0, 0, 0, 0, 2, 2, 2, 0, 2, 2, 2, 0, 2, 2, 2], [], [], [], [], [], [0, 0, 0, 0, 2, 2, 2, 0, 2, 2, 2, 2, 2], [], [], [], [], [], [], [], [], [0, 2, 2, 2, 2, 2, 2], [], [], [], [], [], [0, 1, 1, 2, 2, 2, 2, 0, 2, 2, 2, 2, 2, 2, 0], [], [2, 2, 0, 1, 1, 2, 2, 2, 2, 2, 0, 0, 0, 0, 0, 0, 0, 0, 0, 0, 2, 2, 2, 2, 2, 2, 2, 2, 2, 2, 0, 0, 0, 2, 2, 0, 2, 2, 2, 2, 2, 2, 2, 2, 2, 0, 2, 2, 0, 0, 0], [], [], [], [], [], [], [], [], [], [], [], [], [], [], [], [], [], [], [], [], [], [], [], [], [], []]
def kSl : List (String × Nat × String) := [("NestedChecker$Reader", 67, "call"), ("NestedChecker$Reader", 77, "ret"), ("NestedChecker$Reader", 79, "inner"), ("NestedChecker$Reader", 81, "automaton"), ("NestedChecker$Reader", 130, "symbols"), ("NestedChecker$Reader", 92, "start"), ("NestedChecker$Reader", 98, "accept"), ("NestedChecker$Reader", 100, "rule"), ("NestedChecker$Reader", 175, "push"), ("NestedChecker$Reader", 177, "pop"), ("NestedChecker$Reader", 173, "empty"), ("NestedCheckerModel", 219, " call ret inner automaton start accept rule symbols push pop empty ")]
abbrev kSn : Nat := 12
def kSlen : List Nat := [4, 3, 5, 9, 7, 5, 6, 4, 4, 3, 5, 67]
def kSbyt : List (List Int32) := [[99, 97, 108, 108], [114, 101, 116], [105, 110, 110, 101, 114], [97, 117, 116, 111, 109, 97, 116, 111, 110], [115, 121, 109, 98, 111, 108, 115], [115, 116, 97, 114, 116], [97, 99, 99, 101, 112, 116], [114, 117, 108, 101], [112, 117, 115, 104], [112, 111, 112], [101, 109, 112, 116, 121], [32, 99, 97, 108, 108, 32, 114, 101, 116, 32, 105, 110, 110, 101, 114, 32, 97, 117, 116, 111, 109, 97, 116, 111, 110, 32, 115, 116, 97, 114, 116, 32, 97, 99, 99, 101, 112, 116, 32, 114, 117, 108, 101, 32, 115, 121, 109, 98, 111, 108, 115, 32, 112, 117, 115, 104, 32, 112, 111, 112, 32, 101, 109, 112, 116, 121, 32]]
def kSown (i : Nat) : String := (kSl.getD i ("", 0, "")).1
def kSidx (i : Nat) : Nat := (kSl.getD i ("", 0, "")).2.1
def kStx (i : Nat) : String := (kSl.getD i ("", 0, "")).2.2
/-! memories of whole numbers, and the worlds that they spell -/
abbrev Mem : Type := Int → Int → Int
abbrev vI (z : Int) : Value := .int (Int32.ofInt z)
abbrev vL (z : Int) : Value := .long (Int64.ofInt z)
abbrev KG : Type := jK × (Int → Nat) × va_G × (Nat → Nat) × (Nat → Nat)
abbrev vR (G : KG) (c : Int) : Value := .ref (G.2.1 c)
def mu (M : Mem) (c i v : Int) : Mem := fun a j => if a = c ∧ j = i then v else M a j
theorem mu_s (M : Mem) (c i v : Int) : mu M c i v c i = v := if_pos ⟨rfl, rfl⟩
def kd (c : Int) : Nat := if c < 0 then 0 else kdl.getD c.toNat 0
def kA (k : Nat) : Option (Nat × Nat) := kAl.getD k none
def kC (k : Nat) : Nat := kCl.getD k 0
def kN (k : Nat) : Nat := kNl.getD k 0
def kT (k i : Nat) : Nat := (kTl.getD k []).getD i 0
def kv (G : KG) (t : Nat) (z : Int) : Value := match t with
  | 0 => vI z
  | 1 => vL z
  | _ => vR G z
def ka (G : KG) (t n : Nat) (f : Int → Int) : va_E := match t with
  | 0 => .inl (G.1.2.1, n, .inl (fun j => Int32.ofInt (f j)))
  | 1 => .inl (G.1.1, n, .inl (fun j => Int32.ofInt (f j)))
  | 2 => .inl (G.1.2.2.1, n, .inr (.inl (fun j => Int64.ofInt (f j))))
  | _ => .inl (G.1.2.2.2, n, .inr (.inr (.inr (.inr (fun j => some (G.2.1 (f j)))))))
def ke (G : KG) (k : Nat) (f : Int → Int) : va_E := match kA k with
  | some (t, n) => ka G t n f
  | none => .inr (kC k, (List.range (kN k)).map (fun (i : Nat) => kv G (kT k i) (f i)))
def wd (b n : Nat) (G : KG) (M : Mem) : va_W := (List.range n).map (fun j => (G.2.1 ((b + j : Nat) : Int), ke G (kd ((b + j : Nat) : Int)) (M ((b + j : Nat) : Int))))
/-! the words that all methods share -/
def TT : List Cond := lw_tbl.filter goodWord
theorem tt {w : Cond} (h : w ∈ lw_tbl) (hg : goodWord w = true) : w ∈ TT := List.mem_filter.mpr ⟨h, hg⟩
/-! locals by their places -/
def kla : Nat → List (Option Value) → List (Nat × Value)
  | _, [] => []
  | i, none :: r => kla (i + 1) r
  | i, some v :: r => (i, v) :: kla (i + 1) r
def kl (lo : List (Option Value)) : List (Nat × Value) := kla 0 lo
theorem kla_mem {v : Value} : ∀ {lo : List (Option Value)} {s i : Nat}, (i, v) ∈ kla s lo ↔ s ≤ i ∧ lo[i - s]? = some (some v)
  | [], s, i => by simp [kla]
  | none :: r, s, i => by
    rw [kla, kla_mem (lo := r)]
    constructor
    · rintro ⟨h1, h2⟩
      refine ⟨by omega, ?_⟩
      rw [show i - s = (i - (s + 1)) + 1 by omega, List.getElem?_cons_succ]; exact h2
    · rintro ⟨h1, h2⟩
      by_cases he : i = s
      · subst he; simp at h2
      · refine ⟨by omega, ?_⟩
        rw [show i - s = (i - (s + 1)) + 1 by omega, List.getElem?_cons_succ] at h2; exact h2
  | some w :: r, s, i => by
    rw [kla, List.mem_cons, kla_mem (lo := r)]
    constructor
    · rintro (h | ⟨h1, h2⟩)
      · cases h; simp
      · refine ⟨by omega, ?_⟩
        rw [show i - s = (i - (s + 1)) + 1 by omega, List.getElem?_cons_succ]; exact h2
    · rintro ⟨h1, h2⟩
      by_cases he : i = s
      · subst he; simp at h2; left; rw [h2]
      · right
        refine ⟨by omega, ?_⟩
        rw [show i - s = (i - (s + 1)) + 1 by omega, List.getElem?_cons_succ] at h2; exact h2
theorem kl_mem {lo : List (Option Value)} {i : Nat} {v : Value} : (i, v) ∈ kl lo ↔ lo[i]? = some (some v) := by
  have := kla_mem (v := v) (lo := lo) (s := 0) (i := i)
  simpa [kl] using this
theorem kl_at {ls : Array Slot} {nL : Nat} {lo : List (Option Value)} (h : lv_has ls nL (kl lo)) {i : Nat} {v : Value} (hk : lo[i]? = some (some v)) : ls[i]? = some (.val v) := h.2.2 (i, v) (kl_mem.mpr hk)
theorem lv_mono {ls : Array Slot} {nL : Nat} {l l' : List (Nat × Value)} (h : lv_has ls nL l) (hs : ∀ q ∈ l', q ∈ l) : lv_has ls nL l' := ⟨h.1, h.2.1, fun q hq => h.2.2 q (hs q hq)⟩
/-- what stands ahead of a place is no value of two words -/
def kprev (lo : List (Option Value)) (i : Nat) : Bool := match i with
  | 0 => true
  | j + 1 => match lo[j]? with
    | some (some v) => !(v.category == 2)
    | _ => true
theorem kl_sto1 {lo : List (Option Value)} {i : Nat} {v : Value} (hp : kprev lo i = true) : ∀ q ∈ kl (lo.set i (some v)), q ∈ (i, v) :: (kl lo).filter (fun q => !(q.1 == i) && !(q.1 + 1 == i && q.2.category == 2)) := by
  rintro ⟨j, w⟩ hq0
  have hq := kl_mem.mp hq0
  clear hq0
  by_cases hj : i = j
  · subst hj
    rw [List.getElem?_set] at hq
    simp only [if_true] at hq
    split at hq
    · simp only [Option.some.injEq] at hq; subst hq; exact List.mem_cons_self
    · cases hq
  · rw [List.getElem?_set_ne hj] at hq
    refine List.mem_cons_of_mem _ (List.mem_filter.mpr ⟨kl_mem.mpr hq, ?_⟩)
    have h1 : (j == i) = false := by simpa using fun e => hj e.symm
    simp only [h1, Bool.not_false, Bool.true_and, Bool.not_eq_true', Bool.and_eq_false_iff]
    by_cases h2 : j + 1 = i
    · right
      subst h2
      have hp2 : (!(w.category == 2)) = true := by
        have e : kprev lo (j + 1) = (match lo[j]? with | some (some v) => !(v.category == 2) | _ => true) := rfl
        rw [e, hq] at hp; exact hp
      simpa using hp2
    · left; simpa using h2
