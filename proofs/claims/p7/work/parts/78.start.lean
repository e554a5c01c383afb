/-! the texts of the class, at the start -/
def FLx : List Cond := flatC (Jvm.Cond.and given_1 narrow_1)
def tmx (i : Nat) : Term := Term.string (kSown i) (kSidx i)
def pq1 : List Nat := [9, 17, 25, 36, 52, 67, 81, 97, 112, 128, 144, 163]
def pq2 : List Nat := [10, 18, 26, 37, 53, 68, 82, 98, 113, 129, 145, 164]
def pq3 : List Nat := [11, 19, 27, 38, 54, 69, 83, 99, 114, 130, 146, 165]
def pq4 : List Nat := [12, 20, 28, 39, 55, 70, 84, 100, 115, 131, 147, 166]
def pq5 : List (List Nat) := [[13, 14, 15, 16], [21, 22, 23], [29, 30, 31, 32, 33], [40, 41, 42, 43, 44, 45, 46, 47, 48], [56, 57, 58, 59, 60, 61, 62], [71, 72, 73, 74, 75], [85, 86, 87, 88, 89, 90], [101, 102, 103, 104], [116, 117, 118, 119], [132, 133, 134], [148, 149, 150, 151, 152], [167, 168, 169, 170, 171, 172, 173, 174, 175, 176, 177, 178, 179, 180, 181, 182, 183, 184, 185, 186, 187, 188, 189, 190, 191, 192, 193, 194, 195, 196, 197, 198, 199, 200, 201, 202, 203, 204, 205, 206, 207, 208, 209, 210, 211, 212, 213, 214, 215, 216, 217, 218, 219, 220, 221, 222, 223, 224, 225, 226, 227, 228, 229, 230, 231, 232, 233]]
def pq6 : List (List Nat) := [[999, 24, 34, 49, 63, 76, 91, 105, 120, 135, 153, 234], [999, 999, 35, 50, 64, 77, 92, 106, 121, 136, 154, 235], [999, 999, 999, 51, 65, 78, 93, 107, 122, 137, 155, 236], [999, 999, 999, 999, 66, 79, 94, 108, 123, 138, 156, 237], [999, 999, 999, 999, 999, 80, 95, 109, 124, 139, 157, 238], [999, 999, 999, 999, 999, 999, 96, 110, 125, 140, 158, 239], [999, 999, 999, 999, 999, 999, 999, 111, 126, 141, 159, 240], [999, 999, 999, 999, 999, 999, 999, 999, 127, 142, 160, 241], [999, 999, 999, 999, 999, 999, 999, 999, 999, 143, 161, 242], [999, 999, 999, 999, 999, 999, 999, 999, 999, 999, 162, 243], [999, 999, 999, 999, 999, 999, 999, 999, 999, 999, 999, 244], [999, 999, 999, 999, 999, 999, 999, 999, 999, 999, 999, 999]]
theorem sx1 : ∀ i, i < 12 → FLx[pq1.getD i 0]? = some (Cond.exactly (tmx i) "java/lang/String") := by decide +kernel
theorem sx2 : ∀ i, i < 12 → FLx[pq2.getD i 0]? = some (Cond.eq (.field (tmx i) "java/lang/String" "coder" "B") (.int 0)) := by decide +kernel
theorem sx3 : ∀ i, i < 12 → FLx[pq3.getD i 0]? = some (Cond.arrayOf (.field (tmx i) "java/lang/String" "value" "[B") .byte) := by decide +kernel
theorem sx4 : ∀ i, i < 12 → FLx[pq4.getD i 0]? = some (Cond.eq (.length (.field (tmx i) "java/lang/String" "value" "[B")) (.int (Int32.ofNat (kSlen.getD i 0)))) := by decide +kernel
theorem sx5 : ∀ i, i < 12 → ∀ j, j < kSlen.getD i 0 → FLx[(pq5.getD i []).getD j 0]? = some (Cond.eq (.elem (.field (tmx i) "java/lang/String" "value" "[B") (.int (Int32.ofNat j))) (.int ((kSbyt.getD i []).getD j 0))) := by decide +kernel
theorem sx6 : ∀ i, i < 12 → ∀ j, j < 12 → i ≠ j → FLx[(pq6.getD i []).getD j 0]? = some (Cond.not (Cond.eq (tmx i) (tmx j))) ∨ FLx[(pq6.getD j []).getD i 0]? = some (Cond.not (Cond.eq (tmx j) (tmx i))) := by decide +kernel
theorem sx7 : ∀ i, i < 12 → kSlen.getD i 0 < 2 ^ 31 := by decide +kernel
theorem kS_start {b : Nat} {s : State} (hts : ∀ w ∈ lw_tbl, w.before #[Value.ref b] s = true) (hgv : (Jvm.Cond.and given_1 narrow_1).before #[Value.ref b] s = true) : ∃ adK adV : Nat → Nat, ∀ (k : jK) (ad : Int → Nat) (D : va_G), kS (k, ad, D, adK, adV) (fun q => s.heap.size ≤ q) s := by
  have hs := flat_of_before _ hgv
  have hm : ∀ {i : Nat} {c : Cond}, FLx[i]? = some c → c.before #[Value.ref b] s = true := fun h => hs _ (List.mem_of_getElem? h)
  have hA : ∀ a : Nat, a < s.heap.size → ¬ (fun q => s.heap.size ≤ q) a := fun a h => Nat.not_le.mpr h
  obtain ⟨adK, adV, h1, h2⟩ := vk_Sof (N := 12) (tm := tmx) (len := kSlen) (byt := kSbyt) (A := fun q => s.heap.size ≤ q) sx7 (fun i hi => hm (sx1 i hi)) (fun i hi => hm (sx2 i hi)) (fun i hi => hm (sx3 i hi)) (fun i hi => hm (sx4 i hi)) (fun i hi j hj => hm (sx5 i hi j hj)) (fun i j hi hj hn => (sx6 i hi j hj hn).imp hm hm) hA
  refine ⟨adK, adV, fun k ad D => ⟨h1, ?_, va_Zof (hts _ lm_844) (hts _ lm_187) (va_eqi (hs _ (List.mem_of_getElem? (i := 4) rfl))) hA, va_Zqof (hts _ lm_860) (hts _ lm_189) (hs _ (List.mem_of_getElem? (i := 5) rfl)) hA⟩⟩
  have h3 : ∀ i, i < 12 → (Cond.stringRef (kSown i) (kSidx i) (kStx i)).before #[Value.ref b] s = true := fun i hi => by match i, hi with | 0, _ => exact (hts _ lm_830) | 1, _ => exact (hts _ lm_899) | 2, _ => exact (hts _ lm_900) | 3, _ => exact (hts _ lm_901) | 4, _ => exact (hts _ lm_902) | 5, _ => exact (hts _ lm_903) | 6, _ => exact (hts _ lm_904) | 7, _ => exact (hts _ lm_905) | 8, _ => exact (hts _ lm_906) | 9, _ => exact (hts _ lm_907) | 10, _ => exact (hts _ lm_908) | 11, _ => exact (hts _ lm_1842) | n + 12, h => exact absurd h (by omega)
  exact fun i hi => vk_R.of (h3 i hi) (h2 i hi)

