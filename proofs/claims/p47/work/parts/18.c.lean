/-! String constants -/
abbrev vT (G : KG) (k : Nat) : Value := .ref (G.2.2.2.1 k)
abbrev vU (G : KG) (k : Nat) : Value := .ref (G.2.2.2.2 k)
def slen (i : Nat) : Int := ((kSlen.getD i 0 : Nat) : Int)
def schar (i : Nat) (j : Int) : Int := ((kSbyt.getD i []).getD j.toNat 0).toInt
theorem slen_rng (i : Nat) : 0 ≤ slen i ∧ slen i ≤ 67 := by
  unfold slen
  by_cases h : i < 12
  · have : ∀ i, i < 12 → kSlen.getD i 0 ≤ 67 := by decide +kernel
    have := this i h; omega
  · rw [List.getD_eq_getElem?_getD, List.getElem?_eq_none (by show 12 ≤ i; omega)]; exact ⟨by decide, by decide⟩
theorem schar_all : ∀ i, i < 12 → ∀ b ∈ kSbyt.getD i [], 0 ≤ b.toInt ∧ b.toInt ≤ 127 := by decide +kernel
theorem schar_rng (i : Nat) (hi : i < 12) (j : Int) : 0 ≤ schar i j ∧ schar i j ≤ 127 := by
  unfold schar
  by_cases h : j.toNat < (kSbyt.getD i []).length
  · rw [List.getD_eq_getElem?_getD, List.getElem?_eq_getElem h]
    exact schar_all i hi _ (List.getElem_mem h)
  · rw [List.getD_eq_getElem?_getD, List.getElem?_eq_none (Nat.le_of_not_lt h)]; exact ⟨by decide, by decide⟩
theorem zshr_0 {x : Int} (hx : -2147483648 ≤ x ∧ x ≤ 2147483647) : zshr x 0 = x := by
  unfold zshr
  have e : Int32.ofInt x >>> (Int32.ofInt 0 &&& 31) = Int32.ofInt x := by
    apply Int32.toBitVec_inj.mp
    rw [Int32.toBitVec_shiftRight, BitVec.sshiftRight_eq']
    show (Int32.ofInt x).toBitVec.sshiftRight 0 = _
    simp
  rw [e]; exact z_to hx
theorem lg3 {a b x : Value} (ha : a.category = 1) (hb : b.category = 1) (hx : x.category = 1) : (lg_sl [a, b, x]).length ≤ 3 := by simp [lg_sl, ha, hb, hx]
section KXS
variable {B : Bool} {G : KG} {X : KX} {l : Launch} {cc : ByteArray} {own : String} {nL : Nat} {ret : Option FieldType} {R : Room} {M : Mem} {pc : Nat} {lo : List (Option Value)} {st : List Value}
theorem kx_ldcS (pc' : Nat) (F : kF B G X l cc own nL ret R) (k : Nat) (hk : k < 12) {index : Nat} (ho : kSown k = own) (hi : kSidx k = index) (hdg : decode cc pc = .ok (.ldc index, 2)) (hp : pc + 2 = pc') (kk : KJ B G X M pc' lo (vT G k :: st)) : KJ B G X M pc lo st := by
  subst hp; subst ho; subst hi
  exact fun H locs ls hP hD hZ hl => va_ldcS F.1.1.1 F.1.1.2.1 F.1.1.2.2.2.1 (F.2.2.2.1.2.1 k hk) hdg (kk H locs ls hP hD hZ hl)
theorem kx_sgetv (pc' : Nat) (F : kF B G X l cc own nL ret R) {k : Nat} (hk : k < 12) {index : Nat} (hw : Cond.fieldLink own index "java/lang/String" "value" "[B" ∈ TT) (hdg : decode cc pc = .ok (.getfield index, 3)) (hp : pc + 3 = pc') (kk : KJ B G X M pc' lo (vU G k :: st)) : KJ B G X M pc lo (vT G k :: st) := by
  subst hp
  exact fun H locs ls hP hD hZ hl => vk_getf F.1.1.1 F.1.1.2.1 (F.2.2.2.1.1.1 k hk).2.2.1 hZ F.1.1.2.2.2.1 (F.1.1.2.2.2.2 _ hw) (fun _ h => h) hdg (kk H locs ls hP hD hZ hl)
theorem kx_sgetc (pc' : Nat) (F : kF B G X l cc own nL ret R) {k : Nat} (hk : k < 12) {index : Nat} (hw : Cond.fieldLink own index "java/lang/String" "coder" "B" ∈ TT) (hdg : decode cc pc = .ok (.getfield index, 3)) (hp : pc + 3 = pc') (kk : KJ B G X M pc' lo (vI 0 :: st)) : KJ B G X M pc lo (vT G k :: st) := by
  subst hp
  exact fun H locs ls hP hD hZ hl => vk_getf F.1.1.1 F.1.1.2.1 (F.2.2.2.1.1.1 k hk).2.1 hZ F.1.1.2.2.2.1 (F.1.1.2.2.2.2 _ hw) (fun _ h => h) hdg (kk H locs ls hP hD hZ hl)
theorem kx_salen (pc' : Nat) (F : kF B G X l cc own nL ret R) {k : Nat} (hk : k < 12) (hdg : decode cc pc = .ok (.arraylength, 1)) (hp : pc + 1 = pc') (kk : KJ B G X M pc' lo (vI (slen k) :: st)) : KJ B G X M pc lo (vU G k :: st) := by
  subst hp
  exact fun H locs ls hP hD hZ hl => va_tlen F.1.1.1 F.1.1.2.1 (F.2.2.2.1.1.1 k hk).2.2.2 hZ (by show Int32.ofNat (kSlen.getD k 0) = Int32.ofInt ((kSlen.getD k 0 : Nat) : Int); exact (Int32.ofInt_eq_ofNat).symm) hdg (kk H locs ls hP hD hZ hl)
theorem kx_sbald (pc' : Nat) (F : kF B G X l cc own nL ret R) {k : Nat} (hk : k < 12) {z : Int} (hz : 0 ≤ z ∧ z < slen k) (hdg : decode cc pc = .ok (.baload, 1)) (hp : pc + 1 = pc') (kk : KJ B G X M pc' lo (vI (schar k z) :: st)) : KJ B G X M pc lo (vI z :: vU G k :: st) := by
  subst hp
  have h67 := slen_rng k
  have e : vI (schar k z) = .int ((kSbyt.getD k []).getD z.toNat 0) := by unfold vI schar; rw [z_ofto]
  exact fun H locs ls hP hD hZ hl => va_tb F.1.1.1 F.1.1.2.1 (F.2.2.2.1.1.1 k hk).2.2.2 hZ (z_in hz.1 (by unfold slen at hz; exact hz.2) (by unfold slen at h67; omega)) (by rw [z_nat ⟨hz.1, by omega⟩]) hdg (by rw [← e]; exact kk H locs ls hP hD hZ hl)
theorem kx_gets1 (pc' : Nat) (F : kF B G X l cc own nL ret R) {index : Nat} (hw : Cond.fieldLink own index "java/lang/String" "COMPACT_STRINGS" "Z" ∈ TT) (hdg : decode cc pc = .ok (.getstatic index, 3)) (hp : pc + 3 = pc') (kk : KJ B G X M pc' lo (vI 1 :: st)) : KJ B G X M pc lo st := by
  subst hp
  exact fun H locs ls hP hD hZ hl => va_gets F.1.1.1 F.1.1.2.1 F.2.2.2.1.2.2.1 hZ F.1.1.2.2.2.1 (F.1.1.2.2.2.2 _ hw) (fun _ h => h) hdg (kk H locs ls hP hD hZ hl)
theorem kx_getsq (pc' : Nat) (F : kF B G X l cc own nL ret R) {index : Nat} (hw : Cond.fieldLink own index "jdk/internal/util/Preconditions" "SIOOBE_FORMATTER" "Ljava/util/function/BiFunction;" ∈ TT) (hdg : decode cc pc = .ok (.getstatic index, 3)) (hp : pc + 3 = pc') (kk : ∀ v : Value, v.category = 1 → KJ B G X M pc' lo (v :: st)) : KJ B G X M pc lo st := by
  subst hp
  rcases F.2.2.2.1.2.2.2 with hq | ⟨t, hq⟩
  · exact fun H locs ls hP hD hZ hl => va_gets F.1.1.1 F.1.1.2.1 hq hZ F.1.1.2.2.2.1 (F.1.1.2.2.2.2 _ hw) (fun _ h => h) hdg (kk _ rfl H locs ls hP hD hZ hl)
  · exact fun H locs ls hP hD hZ hl => va_gets F.1.1.1 F.1.1.2.1 hq hZ F.1.1.2.2.2.1 (F.1.1.2.2.2.2 _ hw) (fun _ h => h) hdg (kk _ rfl H locs ls hP hD hZ hl)
theorem kx_i2c (pc' : Nat) (F : kF B G X l cc own nL ret R) {x : Int} (hx : 0 ≤ x ∧ x ≤ 65535) (hdg : decode cc pc = .ok (.i2c, 1)) (hp : pc + 1 = pc') (kk : KJ B G X M pc' lo (vI x :: st)) : KJ B G X M pc lo (vI x :: st) := by
  subst hp
  have e : ((Int32.ofInt x).toUInt32 % 65536).toInt32 = Int32.ofInt x := by
    apply Int32.toBitVec_inj.mp
    apply BitVec.eq_of_toNat_eq
    show ((Int32.ofInt x).toBitVec % 65536#32).toNat = (Int32.ofInt x).toBitVec.toNat
    rw [BitVec.toNat_umod, zb_of ⟨hx.1, by omega⟩]
    show x.toNat % 65536 = x.toNat
    omega
  exact fun H locs ls hP hD hZ hl => lv_i2c F.1.1.1 F.1.1.2.1 hdg e (kk H locs ls hP hD hZ hl)
theorem kx_nret {ty : FieldType} (F : kF B G X l cc own nL (some ty) R) {Q : Int → Mem → Prop} (hQ : xQ X = MQ (xb X) (kQi B G (xA X) Q) (xa X) (xs X) 0 0 (xA X)) {z : Int} (hn : narrow ty (.int (Int32.ofInt z)) = .int (Int32.ofInt z)) (hp : Q z M) (hdg : decode cc pc = .ok (.ireturn, 1)) : KJ B G X M pc lo [vI z] := by
  unfold KJ; rw [hQ]
  exact fun H locs ls hP hD hZ hl => W.zret (v := Int32.ofInt z) F.1.1.1 F.1.1.2.1 F.2.2.2.2.1 hn (fun t ht hW => ⟨⟨Int32.ofInt z, M, rfl, ⟨z, rfl, hp⟩, by rw [ht]; exact hP, hD⟩, hZ.F ht⟩) hZ.2.2 hdg F.2.2.2.2.2.1
theorem nar_char {z : Int} (hz : 0 ≤ z ∧ z ≤ 65535) : narrow .char (.int (Int32.ofInt z)) = .int (Int32.ofInt z) := by
  have e : ((Int32.ofInt z).toUInt32 % 65536).toInt32 = Int32.ofInt z := by
    apply Int32.toBitVec_inj.mp
    apply BitVec.eq_of_toNat_eq
    show ((Int32.ofInt z).toBitVec % 65536#32).toNat = (Int32.ofInt z).toBitVec.toNat
    rw [BitVec.toNat_umod, zb_of ⟨hz.1, by omega⟩]
    show z.toNat % 65536 = z.toNat
    omega
  show Value.int _ = _
  exact congrArg Value.int e
theorem kx_VSi (pc' : Nat) (F : kF B G X l cc own nL ret R) {y : MethodName} {bytes : ByteArray} {mL n index : Nat} {rt : Option FieldType} {rm : Nat × Nat} {As st0 : List Value} {k : Nat} (hk : k < 12) {Q : Int → Mem → Prop} (vd : kVd own index y bytes mL rt n) (hM : KC B G l y bytes mL rt rm (vT G k :: As) M (fun A => kQi B G A Q)) (hci : y.cls = "java/lang/String") (hR : rm.1 + 1 ≤ R.frames ∧ 8 + (mL + 11) + rm.2 ≤ R.locals) (hn : As.length = n) (hst : st0 = As.reverse ++ vT G k :: st) (hroom : (st.map fun v => v.category).sum ≤ 8) (hdg : decode cc pc = .ok (.invokevirtual index, 3)) (hp : pc + 3 = pc') (kk : ∀ (z : Int) (N : Mem), Q z N → KJ B G X N pc' lo (vI z :: st)) : KJ B G X M pc lo st0 := by
  subst hp
  obtain ⟨d0, d1, d2, d3, d4, d5⟩ := vd
  have cw := jy_cV (R := xR X) F.1 (tt_in d5) rfl d0 d1 d2 d3 d4 (rm := { frames := rm.1, cells := 0, slots := 0, locals := rm.2 }) (mc := 0) (ms := 0) rfl rfl (by rw [F.2.2.2.2.2.2.2.1]; exact hR)
  rw [hci] at cw
  exact fun H locs ls hP hD hZ hl => va_calli (va_runV F.1.1 (by have := hM H.size; rw [← F.2.2.2.2.2.2.2.2] at this; exact this) cw ⟨kP_blind, vk_recv F.2.2.2.1.1 hk hZ, kx_pre F hP hD hZ⟩ rfl hn hl.1 hst (lv_room hroom) hdg ⟨Nat.zero_le _, Nat.zero_le _⟩) hZ (fun q _ h => va_free hD hZ F.2.2.1 (List.range (wn B)) (wd_all ..) q h) (va_free hD hZ F.2.2.1 (List.range (wn B)) (wd_all ..)) (fun r u t H1 locs1 ht hvm hpost hB hz hkk hS1 => by
    obtain ⟨z, rfl, hq⟩ := hpost
    obtain ⟨b1, b2⟩ := hB
    rw [ht] at b1
    have hD2 : va_D (xA X) (wD B G u) := ⟨b2.1, fun k q hq => va_free hD hZ F.2.2.1 (List.range (wn B)) (wd_all ..) _ (b2.2 k q hq)⟩
    exact kk z u hq H1 locs1 ls b1 hD2 hS1 hl)
end KXS

