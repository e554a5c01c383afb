/-! the monitors of both sides: what the law's walk keeps -/
def IW (k : Nat) : Bool := Nat.ble 8 k && Nat.ble k 11
theorem IW.no {L : List (Nat × Int)} (hL : L.all (fun p => !(IW p.1)) = true) {k : Nat} (hk : IW k = true) : L.all (fun p => !(p.1 == k)) = true := by
  rw [List.all_eq_true] at hL ⊢
  intro p hp
  have h := hL p hp
  cases e : (p.1 == k) with
  | false => rfl
  | true =>
    have e2 : p.1 = k := by simpa using e
    rw [e2, hk] at h
    cases h
/-- a monitor as a row tells it -/
def zWN (M : Mem) (w : Int) (g : Int → Int) : Prop := M w 0 = g 4 ∧ (0 ≤ g 4 → g 4 < g 3 ∧ zWG M w g)
theorem zWN.fr {L : List (Nat × Int)} {M N : Mem} {w : Int} {g : Int → Int} (h : zWN M w g) (hI : Inv false M) (hk : kd w = 8) (hF : Fr L M N) (hL : L.all (fun p => !(IW p.1)) = true) : zWN N w g := by
  have e := hF.fn hk (IW.no hL (k := 8) rfl)
  have e5 := hF.fn (Inv.r hI hk rfl 5 rfl rfl) (IW.no hL (k := 9) rfl)
  have e6 := hF.fn (Inv.r hI hk rfl 6 rfl rfl) (IW.no hL (k := 10) rfl)
  have e7 := hF.fn (Inv.r hI hk rfl 7 rfl rfl) (IW.no hL (k := 11) rfl)
  unfold zWN zWG at h ⊢
  rw [e, e5, e6, e7]
  exact h
theorem zWN.keep {M N : Mem} {w : Int} {g : Int → Int} {S : Int → Prop} (h : zWN M w g) (hZ : FZ M) (hI : Inv false M) (hk : kd w = 8) (hC : Cf S M N) (hS : ∀ y, w ≤ y → y < w + 4 → ¬ S y) : zWN N w g := by
  obtain ⟨z5, z6, z7⟩ := hZ.2.2 w hk
  have k5 := Inv.r hI hk rfl 5 rfl rfl
  have k6 := Inv.r hI hk rfl 6 rfl rfl
  have k7 := Inv.r hI hk rfl 7 rfl rfl
  have e := hC w (by rw [hk]; rfl) (hS w (by omega) (by omega))
  have e5 := hC (M w 5) (by rw [k5]; rfl) (hS _ (by omega) (by omega))
  have e6 := hC (M w 6) (by rw [k6]; rfl) (hS _ (by omega) (by omega))
  have e7 := hC (M w 7) (by rw [k7]; rfl) (hS _ (by omega) (by omega))
  unfold zWN zWG at h ⊢
  rw [e, e5, e6, e7]
  exact h
theorem zWN.cg {M : Mem} {w : Int} {g g' : Int → Int} (h : zWN M w g) (hI : Inv false M) (hk : kd w = 8) (e : ∀ i, 3 ≤ i → i < 100 → g' i = g i) : zWN M w g' := by
  obtain ⟨h0, h1⟩ := h
  have b := Inv.g hI hk rfl 2 (a := 0) (b := 30) rfl rfl
  refine ⟨by rw [e 4 (by decide) (by decide)]; exact h0, fun p => ?_⟩
  rw [e 4 (by decide) (by decide)] at p
  obtain ⟨a0, a1, a2, a3, a4, a5⟩ := h1 p
  refine ⟨by rw [e 4 (by decide) (by decide), e 3 (by decide) (by decide)]; exact a0, by rw [e 5 (by decide) (by decide)]; exact a1, by rw [e 6 (by decide) (by decide)]; exact a2, by rw [e 7 (by decide) (by decide)]; exact a3, by rw [e 8 (by decide) (by decide)]; exact a4, fun k k0 k1 => ?_⟩
  rw [e 6 (by decide) (by decide)] at k1
  rw [e _ (by omega) (by omega), e _ (by omega) (by omega), e _ (by omega) (by omega)]
  exact a5 k k0 k1
theorem zWN.no {M : Mem} {w : Int} {g : Int → Int} (h : M w 0 = -1) (hg : g 4 = -1) : zWN M w g := ⟨h.trans hg.symm, fun p => absurd p (by omega)⟩
theorem kd_mon {M : Mem} {s : Int} (hI : Inv false M) (hZ : FZ M) (hk : kd s = 12) : kd (s + 15) = 8 := by
  have r := Inv.r hI hk rfl 6 rfl rfl
  rw [(hZ.2.1 s hk).2.2] at r
  exact r
theorem kd_57 : kd 57 = 8 := by decide +kernel
theorem kd_ge {s : Int} (h : kd s = 12) : 68 ≤ s := by have := kd_set h; omega
def zTW (M N : Mem) : Prop := M 0 12 = 57 ∧ zWN M (M 0 5 + 15) (N 164) ∧ ∀ m, 0 ≤ m → m < M 0 7 → m ≤ 2 → zWN M (M 9 m + 15) (fun i => N 164 (272 * (m + 1) + i))
def twC (L : List (Nat × Int)) : Bool := !(fin L 62 5) && !(fin L 62 7) && !(fin L 62 12) && L.all (fun p => !(p.1 == 63)) && L.all (fun p => !(IW p.1))
theorem zTW.c {L : List (Nat × Int)} {M M' N : Mem} (h : zTW M N) (hI : Inv false M) (hZ : FZ M) (hF : Fr L M M') (hl : twC L = true) : zTW M' N := by
  unfold twC at hl
  simp only [Bool.and_eq_true, Bool.not_eq_true'] at hl
  obtain ⟨⟨⟨⟨a, b⟩, c⟩, d⟩, e⟩ := hl
  obtain ⟨h0, h1, h2⟩ := h
  have e5 := hF.e zk_0 5 a
  have e7 := hF.e zk_0 7 b
  have e9 : M' 9 = M 9 := hF.fn kd_x9 d
  refine ⟨(hF.e zk_0 12 c).trans h0, by rw [e5]; exact h1.fr hI (kd_mon hI hZ (kd_lv hI)) hF e, fun m m0 m1 m2 => ?_⟩
  rw [e7] at m1
  rw [e9]
  exact (h2 m m0 m1 m2).fr hI (kd_mon hI hZ (kd_kp hI m)) hF e
theorem zTW.m {M N N' : Mem} (h : zTW M N) (hI : Inv false M) (hZ : FZ M) (e : ∀ i, i < 1088 → N' 164 i = N 164 i) : zTW M N' :=
  ⟨h.1, h.2.1.cg hI (kd_mon hI hZ (kd_lv hI)) (fun i a b => e i (by omega)), fun m m0 m1 m2 => (h.2.2 m m0 m1 m2).cg hI (kd_mon hI hZ (kd_kp hI m)) (fun i a b => e _ (by omega))⟩
/-- cells apart from the monitors' have changed, and places of the one array apart from theirs -/
theorem zTW.oth {M M' N U : Mem} {S : Int → Prop} (h : zTW M N) (hI : Inv false M) (hI' : Inv false M') (hZ : FZ M) (hZ' : FZ M') (e5 : M' 0 5 = M 0 5) (e7 : M' 0 7 = M 0 7) (e12 : M' 0 12 = M 0 12) (e9 : M' 9 = M 9) (hC : Cf S M M') (hS : ∀ s, kd s = 12 → ∀ y, s + 15 ≤ y → y < s + 19 → ¬ S y) (u : ∀ i, i < 1088 → (i < 100 ∨ 272 ≤ i) → U 164 i = N 164 i) : zTW M' U := by
  obtain ⟨h0, h1, h2⟩ := h
  refine ⟨e12.trans h0, ?_, fun m m0 m1 m2 => ?_⟩
  · have k := kd_lv hI
    rw [e5]
    exact (h1.keep hZ hI (kd_mon hI hZ k) hC (fun y a b => hS _ k y a (by omega))).cg hI' (kd_mon hI' hZ' k) (fun i a b => u i (by omega) (by omega))
  · have k := kd_kp hI m
    rw [e7] at m1
    rw [e9]
    exact ((h2 m m0 m1 m2).keep hZ hI (kd_mon hI hZ k) hC (fun y a b => hS _ k y a (by omega))).cg hI' (kd_mon hI' hZ' k) (fun i a b => u _ (by omega) (by omega))
/-- the live one's monitor has changed -/
theorem zTW.live {M M' N U : Mem} (h : zTW M N) (hI : Inv false M) (hI' : Inv false M') (hZ : FZ M) (hZ' : FZ M') (hD : zDI M) (e5 : M' 0 5 = M 0 5) (e7 : M' 0 7 = M 0 7) (e12 : M' 0 12 = M 0 12) (e9 : M' 9 = M 9) (hC : Cf (fun y => M 0 5 + 15 ≤ y ∧ y < M 0 5 + 19) M M') (hl : zWN M' (M 0 5 + 15) (U 164)) (u : ∀ i, i < 1088 → 272 ≤ i → U 164 i = N 164 i) : zTW M' U := by
  obtain ⟨h0, h1, h2⟩ := h
  refine ⟨e12.trans h0, by rw [e5]; exact hl, fun m m0 m1 m2 => ?_⟩
  have k := kd_kp hI m
  rw [e7] at m1
  rw [e9]
  have ap := set_ap k (kd_lv hI) (hD.2.1 m m0 m2).1
  exact ((h2 m m0 m1 m2).keep hZ hI (kd_mon hI hZ k) hC (fun y a b c => by have c1 := c.1; have c2 := c.2; omega)).cg hI' (kd_mon hI' hZ' k) (fun i a b => u _ (by omega) (by omega))
theorem zTW.mark {M M' N U : Mem} (h : zTW M N) (hI : Inv false M) (hI' : Inv false M') (hZ : FZ M) (hZ' : FZ M') (hD : zDI M) (h7 : 0 ≤ M 0 7 ∧ M 0 7 ≤ 2) (e5 : M' 0 5 = M 0 5) (e7 : M' 0 7 = M 0 7 + 1) (e12 : M' 0 12 = M 0 12) (e9 : M' 9 = M 9) (hC : Cf (fun x => M 9 (M 0 7) ≤ x ∧ x < M 9 (M 0 7) + 19) M M') (hl : ∀ g, zWN M (M 0 5 + 15) g → zWN M' (M 9 (M 0 7) + 15) g) (u1 : ∀ i, 0 ≤ i → i < 272 → U 164 (272 * (M 0 7 + 1) + i) = N 164 i) (u2 : ∀ i, (i < 272 * (M 0 7 + 1) ∨ 272 * (M 0 7 + 1) + 272 ≤ i) → U 164 i = N 164 i) : zTW M' U := by
  obtain ⟨h0, h1, h2⟩ := h
  have ap := set_ap (kd_kp hI (M 0 7)) (kd_lv hI) (hD.2.1 (M 0 7) h7.1 h7.2).1
  refine ⟨e12.trans h0, ?_, fun m m0 m1 m2 => ?_⟩
  · rw [e5]
    exact (h1.keep hZ hI (kd_mon hI hZ (kd_lv hI)) hC (fun y a b c => by have c1 := c.1; have c2 := c.2; omega)).cg hI' (kd_mon hI' hZ' (kd_lv hI)) (fun i a b => u2 i (by omega))
  · rw [e7] at m1
    rw [e9]
    by_cases e : m = M 0 7
    · rw [e]
      exact (hl _ h1).cg hI' (kd_mon hI' hZ' (kd_kp hI (M 0 7))) (fun i a b => u1 i (by omega) (by omega))
    · have ap2 := set_ap (kd_kp hI (M 0 7)) (kd_kp hI m) (hD.2.2 (M 0 7) m h7.1 h7.2 m0 m2 (fun z => e z.symm))
      exact ((h2 m m0 (by omega) m2).keep hZ hI (kd_mon hI hZ (kd_kp hI m)) hC (fun y a b c => by have c1 := c.1; have c2 := c.2; omega)).cg hI' (kd_mon hI' hZ' (kd_kp hI m)) (fun i a b => u2 _ (by omega))
theorem zTW.undo {M M' N U : Mem} {L : List (Nat × Int)} (h : zTW M N) (hI : Inv false M) (hI' : Inv false M') (hZ : FZ M) (hZ' : FZ M') (h7 : 1 ≤ M 0 7 ∧ M 0 7 ≤ 3) (hF : Fr L M M') (hL : L.all (fun p => !(IW p.1)) = true) (hL2 : fin L 62 12 = false) (e5 : M' 0 5 = M 9 (M 0 7 - 1)) (e7 : M' 0 7 = M 0 7 - 1) (e9 : ∀ i, M' 9 i = if i = M 0 7 - 1 then M 0 5 else M 9 i) (u1 : ∀ i, 0 ≤ i → i < 272 → U 164 i = N 164 (272 * M 0 7 + i)) (u2 : ∀ i, (i < 0 ∨ 272 ≤ i) → U 164 i = N 164 i) : zTW M' U := by
  obtain ⟨h0, h1, h2⟩ := h
  refine ⟨(hF.e zk_0 12 hL2).trans h0, ?_, fun m m0 m1 m2 => ?_⟩
  · rw [e5]
    have g := (h2 (M 0 7 - 1) (by omega) (by omega) (by omega)).fr hI (kd_mon hI hZ (kd_kp hI _)) hF hL
    rw [show M 0 7 - 1 + 1 = M 0 7 by omega] at g
    exact g.cg hI' (kd_mon hI' hZ' (kd_kp hI _)) (fun i a b => u1 i (by omega) (by omega))
  · rw [e7] at m1
    rw [e9 m, if_neg (by omega)]
    exact ((h2 m m0 (by omega) m2).fr hI (kd_mon hI hZ (kd_kp hI m)) hF hL).cg hI' (kd_mon hI' hZ' (kd_kp hI m)) (fun i a b => u2 _ (by omega))
/-- a text was read -/
theorem zTW.got {M M' N U : Mem} (h : zTW M N) (hI : Inv false M) (hI' : Inv false M') (hZ : FZ M) (hZ' : FZ M') (hD : zDI M) (e5 : M' 0 5 = M 5 0) (e7 : M' 0 7 = M 0 7) (e12 : M' 0 12 = M 0 12) (e9 : M' 9 = M 9) (hC : Cf (fun x => M 5 0 ≤ x ∧ x < M 5 0 + 19) M M') (hw : M' (M 5 0 + 15) 0 = -1) (hg : U 164 4 = -1) (u : ∀ i, 272 ≤ i → i < 1088 → U 164 i = N 164 i) : zTW M' U := by
  obtain ⟨h0, h1, h2⟩ := h
  refine ⟨e12.trans h0, by rw [e5]; exact zWN.no hw hg, fun m m0 m1 m2 => ?_⟩
  rw [e7] at m1
  rw [e9]
  have ap := set_ap (kd_kp hI m) (kd_md hI) (hD.2.1 m m0 m2).2
  exact ((h2 m m0 m1 m2).keep hZ hI (kd_mon hI hZ (kd_kp hI m)) hC (fun y a b c => by have c1 := c.1; have c2 := c.2; omega)).cg hI' (kd_mon hI' hZ' (kd_kp hI m)) (fun i a b => u _ (by omega) (by omega))
/-- a text was read that has a fault -/
theorem zTW.bad {M M' N U : Mem} (h : zTW M N) (hI : Inv false M) (hI' : Inv false M') (hZ : FZ M) (hZ' : FZ M') (hD : zDI M) (e5 : M' 0 5 = M 0 5) (e7 : M' 0 7 = M 0 7) (e12 : M' 0 12 = M 0 12) (e9 : M' 9 = M 9) (hC : Cf (fun x => M 5 0 ≤ x ∧ x < M 5 0 + 19) M M') (u : ∀ i, i < 1088 → U 164 i = N 164 i) : zTW M' U := by
  obtain ⟨h0, h1, h2⟩ := h
  refine ⟨e12.trans h0, ?_, fun m m0 m1 m2 => ?_⟩
  · rw [e5]
    have ap := set_ap (kd_lv hI) (kd_md hI) hD.1
    exact (h1.keep hZ hI (kd_mon hI hZ (kd_lv hI)) hC (fun y a b c => by have c1 := c.1; have c2 := c.2; omega)).cg hI' (kd_mon hI' hZ' (kd_lv hI)) (fun i a b => u _ (by omega))
  · rw [e7] at m1
    rw [e9]
    have ap := set_ap (kd_kp hI m) (kd_md hI) (hD.2.1 m m0 m2).2
    exact ((h2 m m0 m1 m2).keep hZ hI (kd_mon hI hZ (kd_kp hI m)) hC (fun y a b c => by have c1 := c.1; have c2 := c.2; omega)).cg hI' (kd_mon hI' hZ' (kd_kp hI m)) (fun i a b => u _ (by omega))
theorem m0_tw : zTW M0 M0 := ⟨rfl, zWN.no (by decide +kernel) (by decide +kernel), fun m m0 m1 _ => absurd m1 (by rw [show M0 0 7 = 0 from rfl]; omega)⟩
/-! what the monitor's calls do -/
def zBG (a b c d e : Int) (q : Int → Int) (a1 : Int) : Prop := a = a1 ∧ b = 0 ∧ c = 0 ∧ d = q (85 * a1 + 102) ∧ e = smeZ (q (85 * a1 + 100))
theorem zWN.beg {M : Mem} {w a1 : Int} {g q : Int → Int} (h : zBG (M w 0) (M w 1) (M w 2) (M w 3) (M w 4) q a1) (h' : zBG (g 4) (g 5) (g 6) (g 7) (g 8) q a1) (ha : a1 < g 3) : zWN M w g := by
  obtain ⟨a, b, c, d, e⟩ := h
  obtain ⟨a', b', c', d', e'⟩ := h'
  exact ⟨a.trans a'.symm, fun _ => ⟨by omega, b.trans b'.symm, c.trans c'.symm, d.trans d'.symm, e.trans e'.symm, fun k k0 k1 => absurd k1 (by omega)⟩⟩
def zSEk (q g : Int → Int) (a1 : Int) : Prop := 0 ≤ a1 ∧ a1 < q 0 + q 1 + q 2 ∧ 0 ≤ g 4 ∧ (a1 < q 0 → g 6 ≤ 29)
def zSEg (q g : Int → Int) (a1 : Int) : Int → Int := zse g (zst q (85 * g 4 + 100)) (zks q (85 * g 4 + 100)) (q (85 * g 4 + 100)) a1 (zsr q a1)
def zTKN (q g : Int → Int) (r : Int) : Prop := (r = 1 ∧ ¬ zand (g 7) (q (85 * g 4 + 103)) = 0) ∨ (r = 0 ∧ zand (g 7) (q (85 * g 4 + 103)) = 0)
theorem zTKN.u {q g : Int → Int} {r r' : Int} (h : zTKN q g r) (h' : zTKN q g r') : r = r' := by
  rcases h with h | h <;> rcases h' with h' | h'
  · exact h.1.trans h'.1.symm
  · exact absurd h'.2 h.2
  · exact absurd h.2 h'.2
  · exact h.1.trans h'.1.symm
def zSE (q g : Int → Int) (a1 r : Int) (g' : Int → Int) : Prop := (zSEk q g a1 ∧ g' = zSEg q g a1 ∧ zTKN q g' r) ∨ (¬ zSEk q g a1 ∧ r = -1 ∧ g' = g)
theorem zSE.u {q g g1 g2 : Int → Int} {a1 r r' : Int} (h : zSE q g a1 r g1) (h' : zSE q g a1 r' g2) : r = r' ∧ g1 = g2 := by
  rcases h with ⟨a, b, c⟩ | ⟨a, b, c⟩ <;> rcases h' with ⟨a', b', c'⟩ | ⟨a', b', c'⟩
  · subst b b'
    exact ⟨c.u c', rfl⟩
  · exact absurd a a'
  · exact absurd a' a
  · exact ⟨b.trans b'.symm, c.trans c'.symm⟩
theorem zse_4 {g st K : Int → Int} {n l so i : Int} (hi : i = 3 ∨ i = 4) (hp : 0 ≤ g 6) : zse g st K n l so i = g i := by
  unfold zse
  split
  · rw [upk_o (by omega), upk_o (by omega), upk_o (by omega), upk_o (by omega), upk_o (by omega), upk_o (by omega), upk_o (by omega)]
  · split
    · rw [upk_o (by omega), upk_o (by omega), upk_o (by omega), upk_o (by omega)]
    · rw [upk_o (by omega), upk_o (by omega), upk_o (by omega)]
/-- one letter more, by the row's rules -/
theorem zWN.see {L N : Mem} {w x l so b : Int} {g q : Int → Int} (hz : zWG N w (zse g (L (L x 10)) (L (L x 11)) (L x 0) l so)) (h0 : N w 0 = L w 0) (hI : Inv false L) (hw : kd w = 8) (hA : AT L x q b) (hG : zWN L w g) (h4 : 0 ≤ g 4) (hb : b = 85 * g 4 + 100) (hr : 0 ≤ l ∧ l ≤ 5) (hso : so = zsr q l) : zWN N w (zSEg q g l) := by
  obtain ⟨c0, c1⟩ := hG
  obtain ⟨c2, c3⟩ := c1 h4
  have p6 := Inv.g hI hw rfl 2 (a := 0) (b := 30) rfl rfl
  rw [c3.2.1] at p6
  have h := zse.cg (g := g) (K' := zks q b) (K := L (L x 11)) (rfl : l = l) hso.symm (hA.num.1.symm : q b = L x 0) (hA.sl hr).symm (fun _ h6 e' a c => by
    have t := (c3.2.2.2.2 (g 6 - 1) (by omega) (by omega)).2.2
    have r := wlk_bc hI hw (g 6 - 1)
    rw [t] at r
    exact ⟨(hA.kl r ⟨a, by omega⟩).symm, (hA.kl hr ⟨a, by omega⟩).symm⟩)
  unfold zSEg
  rw [← hb, h]
  refine ⟨?_, fun _ => ⟨?_, hz⟩⟩
  · rw [zse_4 (Or.inr rfl) p6.1, h0]; exact c0
  · rw [zse_4 (Or.inr rfl) p6.1, zse_4 (Or.inl rfl) p6.1]; exact c2
def zSN4 (q g : Int → Int) (a1 r : Int) : Prop := ((0 ≤ a1 ∧ a1 ≤ 4 ∧ 0 ≤ g 4) ∧ ((a1 = 0 ∧ r = g 4) ∨ (a1 = 1 ∧ r = g 5) ∨ (a1 = 2 ∧ r = g 6) ∨ (a1 = 3 ∧ r = g 7) ∨ (a1 = 4 ∧ zTKN q g r))) ∨ (¬ (0 ≤ a1 ∧ a1 ≤ 4 ∧ 0 ≤ g 4) ∧ r = -1)
theorem zSN4.u {q g : Int → Int} {a1 r r' : Int} (h : zSN4 q g a1 r) (h' : zSN4 q g a1 r') : r = r' := by
  rcases h with ⟨a, b⟩ | ⟨a, b⟩ <;> rcases h' with ⟨a', b'⟩ | ⟨a', b'⟩
  · rcases b with b | b | b | b | b <;> rcases b' with b' | b' | b' | b' | b' <;> first | omega | exact b.2.u b'.2
  · exact absurd a a'
  · exact absurd a' a
  · exact b.trans b'.symm
/-- a walk as another one is -/
def zWBE (N M : Mem) (x y : Int) : Prop := ∀ i, 0 ≤ i → i < 30 → N (M x 5) i = M (M y 5) i ∧ N (M x 6) i = M (M y 6) i ∧ N (M x 7) i = M (M y 7) i
theorem zWN.bec {M N : Mem} {x y : Int} {g : Int → Int} (h : zWN M y g) (f5 : N x 5 = M x 5) (f6 : N x 6 = M x 6) (f7 : N x 7 = M x 7) (u : zWBE N M x y) (hI : Inv false M) (hk : kd y = 8) (e0 : N x 0 = M y 0) (e1 : N x 1 = M y 1) (e2 : N x 2 = M y 2) (e3 : N x 3 = M y 3) (e4 : N x 4 = M y 4) : zWN N x g := by
  obtain ⟨a0, a1⟩ := h
  have p := Inv.g hI hk rfl 2 (a := 0) (b := 30) rfl rfl
  refine ⟨e0.trans a0, fun z => ?_⟩
  obtain ⟨b0, b1, b2, b3, b4, b5⟩ := a1 z
  refine ⟨b0, e1.trans b1, e2.trans b2, e3.trans b3, e4.trans b4, fun k k0 k1 => ?_⟩
  obtain ⟨u5, u6, u7⟩ := u k k0 (by omega)
  rw [f5, f6, f7, u5, u6, u7]
  exact b5 k k0 k1
theorem zTW.eq {M M' N U : Mem} {L : List (Nat × Int)} (h : zTW M N) (hI : Inv false M) (hI' : Inv false M') (hZ : FZ M) (hZ' : FZ M') (hF : Fr L M M') (hL : L.all (fun p => !(IW p.1)) = true) (hL2 : fin L 62 12 = false) (e5 : M' 0 5 = M 0 5) (e7 : M' 0 7 ≤ M 0 7) (e9 : M' 9 = M 9) (u : U 164 = N 164) : zTW M' U := by
  obtain ⟨h0, h1, h2⟩ := h
  refine ⟨(hF.e zk_0 12 hL2).trans h0, by rw [e5, u]; exact h1.fr hI (kd_mon hI hZ (kd_lv hI)) hF hL, fun m m0 m1 m2 => ?_⟩
  rw [e9, u]
  exact (h2 m m0 (by omega) m2).fr hI (kd_mon hI hZ (kd_kp hI m)) hF hL
theorem zRG.mon {s s' a y : Int} (h : zRG s a y) (hs : kd s = 12) (hs' : kd s' = 12) (h0 : s' + 15 ≤ y) (h1 : y < s' + 19) : False := by
  have b0 := h.2.2.1
  have b1 := h.2.2.2
  have k := kd_set hs
  have k' := kd_set hs'
  omega
theorem SWk.mon {M : Mem} {s y : Int} (h : SWk M (M 0 12) y) (e : M 0 12 = 57) (hZ : FZ M) (hs : kd s = 12) (h0 : s + 15 ≤ y) : False := by
  have w := SWk.in h hZ (by rw [e]; exact kd_57)
  have g := kd_ge hs
  omega
theorem fz_mon {M : Mem} (hI : Inv false M) (hZ : FZ M) : M (M 0 5) 6 = M 0 5 + 15 := (hZ.2.1 _ (kd_lv hI)).2.2
theorem SWk.lv {M : Mem} {y : Int} (h : SWk M (M (M 0 5) 6) y) (hI : Inv false M) (hZ : FZ M) : M 0 5 + 15 ≤ y ∧ y < M 0 5 + 19 := by
  rw [fz_mon hI hZ] at h
  have w := SWk.in h hZ (kd_mon hI hZ (kd_lv hI))
  omega
