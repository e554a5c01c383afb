/-! the first memory -/
def upN (f : Nat → Int32) : Int → Int := fun i => (f i.toNat).toInt
def obN (vs : List Int) (z : Int) : Int → Int := fun i => vs.getD i.toNat z
def m0f : List (Int → Int) := [obN [0, 0, 1, 1, 5, 68, 9, 0, 10, 15, 20, 48, 57, 61, 0] 0, obN [2, 3, 4] 0, obN [] 0, obN [] 0, upN (upd (upd (upd (upd (fun _ => 0) 0 (-1)) 1 (-1)) 2 (-1)) 3 (-1)), obN [87, 0, -1, -1, 6, 0, 0, 0, 0, 0, 7, 8] 0, obN [] 0, obN [] 0, obN [] 0, obN [106, 125, 144] 144, obN [0, 0, 11, 12, 13, 14] 0, obN [] 0, obN [] 0, obN [] 0, obN [] 0, obN [0, 0, 16, 17, 18, 19] 0, obN [] 0, obN [] 0, obN [] 0, obN [] 0, obN [21, 22, 0, 0, 0, 0, 23, 23, 23, 0, 30, 35, 40, 0, 45, 46, 47] 0, obN [] 0, obN [] 0, obN [1, 1, 1, 1, 0, 0, 24, 25, 26, 27, 28, 29] 0, obN [] 0, obN [] 0, obN [] 0, obN [] 0, upN (fun j => if j < 6 then 1 else (fun j => if j < 6 then 0 else (fun _ => 0) j) j), upN (upd (upd (upd (upd (upd (upd (fun j => if j < 18 then 0 else (fun _ => 0) j) 0 1) 3 1) 6 1) 9 1) 12 1) 15 1), obN [0, 31, 32, 33, 34] 0, obN [] 0, obN [] 0, obN [] 0, obN [] 0, obN [0, 36, 37, 38, 39] 0, obN [] 0, obN [] 0, obN [] 0, obN [] 0, obN [0, 41, 42, 43, 44] 0, obN [] 0, obN [] 0, obN [] 0, obN [] 0, obN [] 0, upN (fun j => if j < 512 then (-1 : Int32) else 0), obN [] 0, obN [0, 0, 0, 0, 49, 50, 51, 0, 52, 53, 54, 55, 56] 0, obN [] 0, obN [] 0, obN [] 0, obN [] 0, obN [] 0, obN [] 0, obN [] 0, obN [] 0, obN [-1, 0, 0, 0, 0, 58, 59, 60] 0, obN [] 0, obN [] 0, obN [] 0, obN [0, 62, 63, 64, 65, 66, 67] 0, obN [] 0, obN [] 0, obN [] 0, obN [] 0, obN [] 0, obN [] 0, obN [0, 0, 0, 0, 69, 76, 83] 0, obN [0, 0, 0, 0, 0, 0, 70, 71, 72, 73, 74, 75] 0, obN [] 0, obN [] 0, obN [] 0, obN [] 0, obN [] 0, obN [] 0, obN [0, 0, 0, 0, 0, 0, 77, 78, 79, 80, 81, 82] 0, obN [] 0, obN [] 0, obN [] 0, obN [] 0, obN [] 0, obN [] 0, obN [-1, 0, 0, 0, 0, 84, 85, 86] 0, obN [] 0, obN [] 0, obN [] 0, obN [0, 0, 0, 0, 88, 95, 102] 0, obN [0, 0, 0, 0, 0, 0, 89, 90, 91, 92, 93, 94] 0, obN [] 0, obN [] 0, obN [] 0, obN [] 0, obN [] 0, obN [] 0, obN [0, 0, 0, 0, 0, 0, 96, 97, 98, 99, 100, 101] 0, obN [] 0, obN [] 0, obN [] 0, obN [] 0, obN [] 0, obN [] 0, obN [-1, 0, 0, 0, 0, 103, 104, 105] 0, obN [] 0, obN [] 0, obN [] 0, obN [0, 0, 0, 0, 107, 114, 121] 0, obN [0, 0, 0, 0, 0, 0, 108, 109, 110, 111, 112, 113] 0, obN [] 0, obN [] 0, obN [] 0, obN [] 0, obN [] 0, obN [] 0, obN [0, 0, 0, 0, 0, 0, 115, 116, 117, 118, 119, 120] 0, obN [] 0, obN [] 0, obN [] 0, obN [] 0, obN [] 0, obN [] 0, obN [-1, 0, 0, 0, 0, 122, 123, 124] 0, obN [] 0, obN [] 0, obN [] 0, obN [0, 0, 0, 0, 126, 133, 140] 0, obN [0, 0, 0, 0, 0, 0, 127, 128, 129, 130, 131, 132] 0, obN [] 0, obN [] 0, obN [] 0, obN [] 0, obN [] 0, obN [] 0, obN [0, 0, 0, 0, 0, 0, 134, 135, 136, 137, 138, 139] 0, obN [] 0, obN [] 0, obN [] 0, obN [] 0, obN [] 0, obN [] 0, obN [-1, 0, 0, 0, 0, 141, 142, 143] 0, obN [] 0, obN [] 0, obN [] 0, obN [0, 0, 0, 0, 145, 152, 159] 0, obN [0, 0, 0, 0, 0, 0, 146, 147, 148, 149, 150, 151] 0, obN [] 0, obN [] 0, obN [] 0, obN [] 0, obN [] 0, obN [] 0, obN [0, 0, 0, 0, 0, 0, 153, 154, 155, 156, 157, 158] 0, obN [] 0, obN [] 0, obN [] 0, obN [] 0, obN [] 0, obN [] 0, obN [-1, 0, 0, 0, 0, 160, 161, 162] 0, obN [] 0, obN [] 0, obN [] 0, obN [164, 165, 0, 0, 1, 166, 167, 168, 169, 170, 0, 0, 0, 0, 0, 0, -1, -1, 0, 0, 171, 172, 173, 174, 175, 176, 177, 178, 179, 180, 0, 0, 0, 181, 182, 0, 183, 184, 185, 186, 187, 188, 189, 190, 191, 0, 192, 193, 0, 0, 0] 0, upN (upd (fun _ => (0 : Int32)) 4 (-1)), obN [] 0, obN [] 0, upN (upd (upd (upd (upd (fun _ => 0) 0 (-1)) 1 (-1)) 2 (-1)) 3 (-1)), obN [] 0, obN [] 0, obN [] 0, obN [] 0, obN [] 0, obN [] 0, obN [] 0, obN [] 0, obN [] 0, obN [] 0, obN [] 0, obN [] 0, obN [] 0, obN [] 0, obN [] 0, obN [] 0, obN [] 0, obN [] 0, obN [] 0, obN [] 0, obN [] 0, obN [] 0, obN [] 0, obN [] 0, obN [] 0, obN [] 0]
def M0 : Mem := fun c => m0f.getD c.toNat (fun _ => 0)
def m0l : List (Option (List Int × Int)) := [some ([0, 0, 1, 1, 5, 68, 9, 0, 10, 15, 20, 48, 57, 61, 0], 0), some ([2, 3, 4], 0), some ([], 0), some ([], 0), none, some ([87, 0, -1, -1, 6, 0, 0, 0, 0, 0, 7, 8], 0), some ([], 0), some ([], 0), some ([], 0), some ([106, 125, 144], 144), some ([0, 0, 11, 12, 13, 14], 0), some ([], 0), some ([], 0), some ([], 0), some ([], 0), some ([0, 0, 16, 17, 18, 19], 0), some ([], 0), some ([], 0), some ([], 0), some ([], 0), some ([21, 22, 0, 0, 0, 0, 23, 23, 23, 0, 30, 35, 40, 0, 45, 46, 47], 0), some ([], 0), some ([], 0), some ([1, 1, 1, 1, 0, 0, 24, 25, 26, 27, 28, 29], 0), some ([], 0), some ([], 0), some ([], 0), some ([], 0), none, none, some ([0, 31, 32, 33, 34], 0), some ([], 0), some ([], 0), some ([], 0), some ([], 0), some ([0, 36, 37, 38, 39], 0), some ([], 0), some ([], 0), some ([], 0), some ([], 0), some ([0, 41, 42, 43, 44], 0), some ([], 0), some ([], 0), some ([], 0), some ([], 0), some ([], 0), none, some ([], 0), some ([0, 0, 0, 0, 49, 50, 51, 0, 52, 53, 54, 55, 56], 0), some ([], 0), some ([], 0), some ([], 0), some ([], 0), some ([], 0), some ([], 0), some ([], 0), some ([], 0), some ([-1, 0, 0, 0, 0, 58, 59, 60], 0), some ([], 0), some ([], 0), some ([], 0), some ([0, 62, 63, 64, 65, 66, 67], 0), some ([], 0), some ([], 0), some ([], 0), some ([], 0), some ([], 0), some ([], 0), some ([0, 0, 0, 0, 69, 76, 83], 0), some ([0, 0, 0, 0, 0, 0, 70, 71, 72, 73, 74, 75], 0), some ([], 0), some ([], 0), some ([], 0), some ([], 0), some ([], 0), some ([], 0), some ([0, 0, 0, 0, 0, 0, 77, 78, 79, 80, 81, 82], 0), some ([], 0), some ([], 0), some ([], 0), some ([], 0), some ([], 0), some ([], 0), some ([-1, 0, 0, 0, 0, 84, 85, 86], 0), some ([], 0), some ([], 0), some ([], 0), some ([0, 0, 0, 0, 88, 95, 102], 0), some ([0, 0, 0, 0, 0, 0, 89, 90, 91, 92, 93, 94], 0), some ([], 0), some ([], 0), some ([], 0), some ([], 0), some ([], 0), some ([], 0), some ([0, 0, 0, 0, 0, 0, 96, 97, 98, 99, 100, 101], 0), some ([], 0), some ([], 0), some ([], 0), some ([], 0), some ([], 0), some ([], 0), some ([-1, 0, 0, 0, 0, 103, 104, 105], 0), some ([], 0), some ([], 0), some ([], 0), some ([0, 0, 0, 0, 107, 114, 121], 0), some ([0, 0, 0, 0, 0, 0, 108, 109, 110, 111, 112, 113], 0), some ([], 0), some ([], 0), some ([], 0), some ([], 0), some ([], 0), some ([], 0), some ([0, 0, 0, 0, 0, 0, 115, 116, 117, 118, 119, 120], 0), some ([], 0), some ([], 0), some ([], 0), some ([], 0), some ([], 0), some ([], 0), some ([-1, 0, 0, 0, 0, 122, 123, 124], 0), some ([], 0), some ([], 0), some ([], 0), some ([0, 0, 0, 0, 126, 133, 140], 0), some ([0, 0, 0, 0, 0, 0, 127, 128, 129, 130, 131, 132], 0), some ([], 0), some ([], 0), some ([], 0), some ([], 0), some ([], 0), some ([], 0), some ([0, 0, 0, 0, 0, 0, 134, 135, 136, 137, 138, 139], 0), some ([], 0), some ([], 0), some ([], 0), some ([], 0), some ([], 0), some ([], 0), some ([-1, 0, 0, 0, 0, 141, 142, 143], 0), some ([], 0), some ([], 0), some ([], 0), some ([0, 0, 0, 0, 145, 152, 159], 0), some ([0, 0, 0, 0, 0, 0, 146, 147, 148, 149, 150, 151], 0), some ([], 0), some ([], 0), some ([], 0), some ([], 0), some ([], 0), some ([], 0), some ([0, 0, 0, 0, 0, 0, 153, 154, 155, 156, 157, 158], 0), some ([], 0), some ([], 0), some ([], 0), some ([], 0), some ([], 0), some ([], 0), some ([-1, 0, 0, 0, 0, 160, 161, 162], 0), some ([], 0), some ([], 0), some ([], 0), some ([164, 165, 0, 0, 1, 166, 167, 168, 169, 170, 0, 0, 0, 0, 0, 0, -1, -1, 0, 0, 171, 172, 173, 174, 175, 176, 177, 178, 179, 180, 0, 0, 0, 181, 182, 0, 183, 184, 185, 186, 187, 188, 189, 190, 191, 0, 192, 193, 0, 0, 0], 0), none, some ([], 0), some ([], 0), none, some ([], 0), some ([], 0), some ([], 0), some ([], 0), some ([], 0), some ([], 0), some ([], 0), some ([], 0), some ([], 0), some ([], 0), some ([], 0), some ([], 0), some ([], 0), some ([], 0), some ([], 0), some ([], 0), some ([], 0), some ([], 0), some ([], 0), some ([], 0), some ([], 0), some ([], 0), some ([], 0), some ([], 0), some ([], 0), some ([], 0)]
theorem m0_all : ∀ j, j < 194 → (m0l.getD j none).isSome = true → m0f.getD j (fun _ => 0) = obN ((m0l.getD j none).getD ([], 0)).1 ((m0l.getD j none).getD ([], 0)).2 := by
  intro j hj
  match j, hj with
  | 0, _ => exact fun _ => rfl
  | 1, _ => exact fun _ => rfl
  | 2, _ => exact fun _ => rfl
  | 3, _ => exact fun _ => rfl
  | 4, _ => exact fun h => by cases h
  | 5, _ => exact fun _ => rfl
  | 6, _ => exact fun _ => rfl
  | 7, _ => exact fun _ => rfl
  | 8, _ => exact fun _ => rfl
  | 9, _ => exact fun _ => rfl
  | 10, _ => exact fun _ => rfl
  | 11, _ => exact fun _ => rfl
  | 12, _ => exact fun _ => rfl
  | 13, _ => exact fun _ => rfl
  | 14, _ => exact fun _ => rfl
  | 15, _ => exact fun _ => rfl
  | 16, _ => exact fun _ => rfl
  | 17, _ => exact fun _ => rfl
  | 18, _ => exact fun _ => rfl
  | 19, _ => exact fun _ => rfl
  | 20, _ => exact fun _ => rfl
  | 21, _ => exact fun _ => rfl
  | 22, _ => exact fun _ => rfl
  | 23, _ => exact fun _ => rfl
  | 24, _ => exact fun _ => rfl
  | 25, _ => exact fun _ => rfl
  | 26, _ => exact fun _ => rfl
  | 27, _ => exact fun _ => rfl
  | 28, _ => exact fun h => by cases h
  | 29, _ => exact fun h => by cases h
  | 30, _ => exact fun _ => rfl
  | 31, _ => exact fun _ => rfl
  | 32, _ => exact fun _ => rfl
  | 33, _ => exact fun _ => rfl
  | 34, _ => exact fun _ => rfl
  | 35, _ => exact fun _ => rfl
  | 36, _ => exact fun _ => rfl
  | 37, _ => exact fun _ => rfl
  | 38, _ => exact fun _ => rfl
  | 39, _ => exact fun _ => rfl
  | 40, _ => exact fun _ => rfl
  | 41, _ => exact fun _ => rfl
  | 42, _ => exact fun _ => rfl
  | 43, _ => exact fun _ => rfl
  | 44, _ => exact fun _ => rfl
  | 45, _ => exact fun _ => rfl
  | 46, _ => exact fun h => by cases h
  | 47, _ => exact fun _ => rfl
  | 48, _ => exact fun _ => rfl
  | 49, _ => exact fun _ => rfl
  | 50, _ => exact fun _ => rfl
  | 51, _ => exact fun _ => rfl
  | 52, _ => exact fun _ => rfl
  | 53, _ => exact fun _ => rfl
  | 54, _ => exact fun _ => rfl
  | 55, _ => exact fun _ => rfl
  | 56, _ => exact fun _ => rfl
  | 57, _ => exact fun _ => rfl
  | 58, _ => exact fun _ => rfl
  | 59, _ => exact fun _ => rfl
  | 60, _ => exact fun _ => rfl
  | 61, _ => exact fun _ => rfl
  | 62, _ => exact fun _ => rfl
  | 63, _ => exact fun _ => rfl
  | 64, _ => exact fun _ => rfl
  | 65, _ => exact fun _ => rfl
  | 66, _ => exact fun _ => rfl
  | 67, _ => exact fun _ => rfl
  | 68, _ => exact fun _ => rfl
  | 69, _ => exact fun _ => rfl
  | 70, _ => exact fun _ => rfl
  | 71, _ => exact fun _ => rfl
  | 72, _ => exact fun _ => rfl
  | 73, _ => exact fun _ => rfl
  | 74, _ => exact fun _ => rfl
  | 75, _ => exact fun _ => rfl
  | 76, _ => exact fun _ => rfl
  | 77, _ => exact fun _ => rfl
  | 78, _ => exact fun _ => rfl
  | 79, _ => exact fun _ => rfl
  | 80, _ => exact fun _ => rfl
  | 81, _ => exact fun _ => rfl
  | 82, _ => exact fun _ => rfl
  | 83, _ => exact fun _ => rfl
  | 84, _ => exact fun _ => rfl
  | 85, _ => exact fun _ => rfl
  | 86, _ => exact fun _ => rfl
  | 87, _ => exact fun _ => rfl
  | 88, _ => exact fun _ => rfl
  | 89, _ => exact fun _ => rfl
  | 90, _ => exact fun _ => rfl
  | 91, _ => exact fun _ => rfl
  | 92, _ => exact fun _ => rfl
  | 93, _ => exact fun _ => rfl
  | 94, _ => exact fun _ => rfl
  | 95, _ => exact fun _ => rfl
  | 96, _ => exact fun _ => rfl
  | 97, _ => exact fun _ => rfl
  | 98, _ => exact fun _ => rfl
  | 99, _ => exact fun _ => rfl
  | 100, _ => exact fun _ => rfl
  | 101, _ => exact fun _ => rfl
  | 102, _ => exact fun _ => rfl
  | 103, _ => exact fun _ => rfl
  | 104, _ => exact fun _ => rfl
  | 105, _ => exact fun _ => rfl
  | 106, _ => exact fun _ => rfl
  | 107, _ => exact fun _ => rfl
  | 108, _ => exact fun _ => rfl
  | 109, _ => exact fun _ => rfl
  | 110, _ => exact fun _ => rfl
  | 111, _ => exact fun _ => rfl
  | 112, _ => exact fun _ => rfl
  | 113, _ => exact fun _ => rfl
  | 114, _ => exact fun _ => rfl
  | 115, _ => exact fun _ => rfl
  | 116, _ => exact fun _ => rfl
  | 117, _ => exact fun _ => rfl
  | 118, _ => exact fun _ => rfl
  | 119, _ => exact fun _ => rfl
  | 120, _ => exact fun _ => rfl
  | 121, _ => exact fun _ => rfl
  | 122, _ => exact fun _ => rfl
  | 123, _ => exact fun _ => rfl
  | 124, _ => exact fun _ => rfl
  | 125, _ => exact fun _ => rfl
  | 126, _ => exact fun _ => rfl
  | 127, _ => exact fun _ => rfl
  | 128, _ => exact fun _ => rfl
  | 129, _ => exact fun _ => rfl
  | 130, _ => exact fun _ => rfl
  | 131, _ => exact fun _ => rfl
  | 132, _ => exact fun _ => rfl
  | 133, _ => exact fun _ => rfl
  | 134, _ => exact fun _ => rfl
  | 135, _ => exact fun _ => rfl
  | 136, _ => exact fun _ => rfl
  | 137, _ => exact fun _ => rfl
  | 138, _ => exact fun _ => rfl
  | 139, _ => exact fun _ => rfl
  | 140, _ => exact fun _ => rfl
  | 141, _ => exact fun _ => rfl
  | 142, _ => exact fun _ => rfl
  | 143, _ => exact fun _ => rfl
  | 144, _ => exact fun _ => rfl
  | 145, _ => exact fun _ => rfl
  | 146, _ => exact fun _ => rfl
  | 147, _ => exact fun _ => rfl
  | 148, _ => exact fun _ => rfl
  | 149, _ => exact fun _ => rfl
  | 150, _ => exact fun _ => rfl
  | 151, _ => exact fun _ => rfl
  | 152, _ => exact fun _ => rfl
  | 153, _ => exact fun _ => rfl
  | 154, _ => exact fun _ => rfl
  | 155, _ => exact fun _ => rfl
  | 156, _ => exact fun _ => rfl
  | 157, _ => exact fun _ => rfl
  | 158, _ => exact fun _ => rfl
  | 159, _ => exact fun _ => rfl
  | 160, _ => exact fun _ => rfl
  | 161, _ => exact fun _ => rfl
  | 162, _ => exact fun _ => rfl
  | 163, _ => exact fun _ => rfl
  | 164, _ => exact fun h => by cases h
  | 165, _ => exact fun _ => rfl
  | 166, _ => exact fun _ => rfl
  | 167, _ => exact fun h => by cases h
  | 168, _ => exact fun _ => rfl
  | 169, _ => exact fun _ => rfl
  | 170, _ => exact fun _ => rfl
  | 171, _ => exact fun _ => rfl
  | 172, _ => exact fun _ => rfl
  | 173, _ => exact fun _ => rfl
  | 174, _ => exact fun _ => rfl
  | 175, _ => exact fun _ => rfl
  | 176, _ => exact fun _ => rfl
  | 177, _ => exact fun _ => rfl
  | 178, _ => exact fun _ => rfl
  | 179, _ => exact fun _ => rfl
  | 180, _ => exact fun _ => rfl
  | 181, _ => exact fun _ => rfl
  | 182, _ => exact fun _ => rfl
  | 183, _ => exact fun _ => rfl
  | 184, _ => exact fun _ => rfl
  | 185, _ => exact fun _ => rfl
  | 186, _ => exact fun _ => rfl
  | 187, _ => exact fun _ => rfl
  | 188, _ => exact fun _ => rfl
  | 189, _ => exact fun _ => rfl
  | 190, _ => exact fun _ => rfl
  | 191, _ => exact fun _ => rfl
  | 192, _ => exact fun _ => rfl
  | 193, _ => exact fun _ => rfl
  | n + 194, h => exact absurd h (by omega)
theorem M0_ob {c : Int} {vs : List Int} {z : Int} (h : m0l.getD c.toNat none = some (vs, z)) (hc : c.toNat < 194) : M0 c = obN vs z := by
  have := m0_all c.toNat hc (by rw [h]; rfl)
  rw [h] at this
  exact this
def okv (k : Nat) (i v : Int) : Bool := decide (rlo k i ≤ v) && decide (v ≤ rhi k i) && (rk k i == 0 || kd v == rk k i)
def okc (n : Nat) : Bool := match m0l.getD n none with
  | none => true
  | some (vs, z) => Nat.ble vs.length 60 && (List.range 61).all (fun i => okv (kdl.getD n 0) (i : Int) (vs.getD i z))
theorem okc_all : ∀ n, n < 194 → okc n = true := by decide +kernel
theorem r_far : ∀ k, k < 91 → (rll.getD k []).length ≤ 60 ∧ (rhl.getD k []).length ≤ 60 ∧ (rkl.getD k []).length ≤ 60 := by decide +kernel
theorem kdl_lt : ∀ n, n < 194 → kdl.getD n 0 < 91 := by decide +kernel
theorem getD_far {α : Type} {l : List α} {i : Nat} {z : α} (h : l.length ≤ i) : l.getD i z = z := by
  rw [List.getD_eq_getElem?_getD, List.getElem?_eq_none h]; rfl
theorem getD_cut {α : Type} {l : List α} (h : l.length ≤ 60) (i : Nat) (z : α) : l.getD i z = l.getD (min i 60) z := by
  by_cases q : i ≤ 60
  · rw [Nat.min_eq_left q]
  · rw [Nat.min_eq_right (by omega), getD_far (by omega), getD_far h]
theorem r_cut {k : Nat} (hk : k < 91) (ha : k ≠ kAT) (i : Int) : rlo k i = rlo k ((min i.toNat 60 : Nat) : Int) ∧ rhi k i = rhi k ((min i.toNat 60 : Nat) : Int) ∧ rk k i = rk k ((min i.toNat 60 : Nat) : Int) := by
  obtain ⟨h1, h2, h3⟩ := r_far k hk
  unfold rlo rhi rk
  rw [if_neg ha, if_neg ha, if_neg ha, if_neg ha]
  cases hA : kA k with
  | some q => exact ⟨rfl, rfl, rfl⟩
  | none =>
    simp only [Int.toNat_natCast]
    exact ⟨getD_cut h1 _ _, getD_cut h2 _ _, getD_cut h3 _ _⟩
theorem okv_spec {k : Nat} {i v : Int} (h : okv k i v = true) : (rlo k i ≤ v ∧ v ≤ rhi k i) ∧ (rk k i ≠ 0 → kd v = rk k i) := by
  unfold okv at h
  simp only [Bool.and_eq_true, decide_eq_true_eq, Bool.or_eq_true, beq_iff_eq] at h
  refine ⟨h.1, fun q => ?_⟩
  rcases h.2 with e | e
  · exact absurd e q
  · exact e
theorem m0_ok {c : Int} (hc : 0 ≤ c ∧ c < 194) (hs : (m0l.getD c.toNat none).isSome = true) (ha : kd c ≠ kAT) (i : Int) : (rlo (kd c) i ≤ M0 c i ∧ M0 c i ≤ rhi (kd c) i) ∧ (rk (kd c) i ≠ 0 → kd (M0 c i) = rk (kd c) i) := by
  have hk : kd c = kdl.getD c.toNat 0 := by unfold kd; rw [if_neg (by omega)]
  cases hx : m0l.getD c.toNat none with
  | none => rw [hx] at hs; cases hs
  | some q =>
    obtain ⟨vs, z⟩ := q
    have h0 := okc_all c.toNat (by omega)
    unfold okc at h0
    rw [hx] at h0
    simp only [Bool.and_eq_true] at h0
    have hl := Nat.le_of_ble_eq_true h0.1
    have hm : min i.toNat 60 < 61 := by omega
    have h1 := okv_spec (List.all_eq_true.mp h0.2 (min i.toNat 60) (List.mem_range.mpr hm))
    obtain ⟨e1, e2, e3⟩ := r_cut (k := kd c) (by rw [hk]; exact kdl_lt _ (by omega)) ha i
    rw [M0_ob hx (by omega)]
    unfold obN
    rw [e1, e2, e3, getD_cut hl i.toNat z, hk]
    exact h1

theorem up_rng {f : Nat → Int32} {c : Int} (h : M0 c = upN f) {a b : Int} (hf : ∀ j, a ≤ (f j).toInt ∧ (f j).toInt ≤ b) (i : Int) : a ≤ M0 c i ∧ M0 c i ≤ b := by rw [h]; exact hf _
theorem upd_rng {f : Nat → Int32} {n : Nat} {v : Int32} {a b : Int} (hf : ∀ j, a ≤ (f j).toInt ∧ (f j).toInt ≤ b) (hv : a ≤ v.toInt ∧ v.toInt ≤ b) : ∀ j, a ≤ (upd f n v j).toInt ∧ (upd f n v j).toInt ≤ b := fun j => by
  unfold upd
  split
  · exact hv
  · exact hf j
theorem ite_rng {f : Nat → Int32} {n : Nat} {v : Int32} {a b : Int} (hf : ∀ j, a ≤ (f j).toInt ∧ (f j).toInt ≤ b) (hv : a ≤ v.toInt ∧ v.toInt ≤ b) : ∀ j, a ≤ ((fun j => if j < n then v else f j) j).toInt ∧ ((fun j => if j < n then v else f j) j).toInt ≤ b := fun j => by
  show a ≤ (if j < n then v else f j).toInt ∧ (if j < n then v else f j).toInt ≤ b
  split
  · exact hv
  · exact hf j
theorem k0_rng {v : Int32} {a b : Int} (hv : a ≤ v.toInt ∧ v.toInt ≤ b) : ∀ j : Nat, a ≤ ((fun _ : Nat => v) j).toInt ∧ ((fun _ : Nat => v) j).toInt ≤ b := fun _ => hv
theorem m0_r4 (i : Int) : (rlo (kd 4) i ≤ M0 4 i ∧ M0 4 i ≤ rhi (kd 4) i) ∧ (rk (kd 4) i ≠ 0 → kd (M0 4 i) = rk (kd 4) i) := ⟨up_rng (f := (upd (upd (upd (upd (fun _ => 0) 0 (-1)) 1 (-1)) 2 (-1)) 3 (-1))) (a := (-1)) (b := 60) rfl (upd_rng (upd_rng (upd_rng (upd_rng (k0_rng ⟨by decide, by decide⟩) ⟨by decide, by decide⟩) ⟨by decide, by decide⟩) ⟨by decide, by decide⟩) ⟨by decide, by decide⟩) i, fun h => absurd rfl h⟩
theorem m0_r28 (i : Int) : (rlo (kd 28) i ≤ M0 28 i ∧ M0 28 i ≤ rhi (kd 28) i) ∧ (rk (kd 28) i ≠ 0 → kd (M0 28 i) = rk (kd 28) i) := ⟨up_rng (f := (fun j => if j < 6 then 1 else (fun j => if j < 6 then 0 else (fun _ => 0) j) j)) (a := 0) (b := 511) rfl (ite_rng (ite_rng (k0_rng ⟨by decide, by decide⟩) ⟨by decide, by decide⟩) ⟨by decide, by decide⟩) i, fun h => absurd rfl h⟩
theorem m0_r29 (i : Int) : (rlo (kd 29) i ≤ M0 29 i ∧ M0 29 i ≤ rhi (kd 29) i) ∧ (rk (kd 29) i ≠ 0 → kd (M0 29 i) = rk (kd 29) i) := ⟨up_rng (f := (upd (upd (upd (upd (upd (upd (fun j => if j < 18 then 0 else (fun _ => 0) j) 0 1) 3 1) 6 1) 9 1) 12 1) 15 1)) (a := 0) (b := 511) rfl (upd_rng (upd_rng (upd_rng (upd_rng (upd_rng (upd_rng (ite_rng (k0_rng ⟨by decide, by decide⟩) ⟨by decide, by decide⟩) ⟨by decide, by decide⟩) ⟨by decide, by decide⟩) ⟨by decide, by decide⟩) ⟨by decide, by decide⟩) ⟨by decide, by decide⟩) ⟨by decide, by decide⟩) i, fun h => absurd rfl h⟩
theorem m0_r46 (i : Int) : (rlo (kd 46) i ≤ M0 46 i ∧ M0 46 i ≤ rhi (kd 46) i) ∧ (rk (kd 46) i ≠ 0 → kd (M0 46 i) = rk (kd 46) i) := ⟨up_rng (f := (fun j => if j < 512 then (-1 : Int32) else 0)) (a := (-1)) (b := 63) rfl (ite_rng (k0_rng ⟨by decide, by decide⟩) ⟨by decide, by decide⟩) i, fun h => absurd rfl h⟩
theorem m0_r167 (i : Int) : (rlo (kd 167) i ≤ M0 167 i ∧ M0 167 i ≤ rhi (kd 167) i) ∧ (rk (kd 167) i ≠ 0 → kd (M0 167 i) = rk (kd 167) i) := ⟨up_rng (f := (upd (upd (upd (upd (fun _ => 0) 0 (-1)) 1 (-1)) 2 (-1)) 3 (-1))) (a := (-1)) (b := 60) rfl (upd_rng (upd_rng (upd_rng (upd_rng (k0_rng ⟨by decide, by decide⟩) ⟨by decide, by decide⟩) ⟨by decide, by decide⟩) ⟨by decide, by decide⟩) ⟨by decide, by decide⟩) i, fun h => absurd rfl h⟩
theorem M0_at (i : Int) : M0 164 i = if i = 4 then -1 else 0 := by
  show (upd (fun _ => (0 : Int32)) 4 (-1) i.toNat).toInt = _
  unfold upd
  by_cases h : i = 4
  · rw [if_pos (by omega), if_pos h]; rfl
  · rw [if_neg (by omega), if_neg h]; rfl
theorem at_lo0 (i : Int) : atlo i ≤ 0 := by
  unfold atlo
  simp only []
  split
  · decide
  · split
    · decide
    · split
      · split
        · decide
        · decide
      · split
        · decide
        · decide
theorem ite_nn {c : Prop} {hc : Decidable c} {a b : Int} (ha : 0 ≤ a) (hb : 0 ≤ b) : 0 ≤ (if c then a else b) := by
  by_cases h : c
  · rw [if_pos h]; exact ha
  · rw [if_neg h]; exact hb
theorem at_hi0 (i : Int) : 0 ≤ athi i := by
  unfold athi
  simp only []
  repeat' (refine ite_nn ?_ ?_)
  all_goals decide
theorem m0_r164 (i : Int) : (rlo (kd 164) i ≤ M0 164 i ∧ M0 164 i ≤ rhi (kd 164) i) ∧ (rk (kd 164) i ≠ 0 → kd (M0 164 i) = rk (kd 164) i) := by
  refine ⟨?_, fun h => absurd rfl h⟩
  rw [M0_at, kd_164]
  have e1 : rlo 65 i = atlo i := rfl
  have e2 : rhi 65 i = athi i := rfl
  rw [e1, e2]
  have h1 := at_lo0 i
  have h2 := at_hi0 i
  by_cases h : i = 4
  · subst h; decide
  · rw [if_neg h]; exact ⟨h1, h2⟩
theorem sp_all : ∀ n, n < 194 → (m0l.getD n none).isSome = false → n = 4 ∨ n = 28 ∨ n = 29 ∨ n = 46 ∨ n = 164 ∨ n = 167 := by decide +kernel
theorem at_only : ∀ n, n < 194 → kdl.getD n 0 = kAT → n = 164 := by decide +kernel
theorem m0_inv (B : Bool) : Inv B M0 := by
  intro c i hw
  have h0 : kd c ≠ 0 := by
    intro e
    rw [e] at hw
    cases B <;> simp [kW] at hw
  obtain ⟨h1, h2⟩ := kd_lt h0
  by_cases hs : (m0l.getD c.toNat none).isSome = true
  · refine m0_ok ⟨h1, h2⟩ hs (fun e => ?_) i
    have hk : kd c = kdl.getD c.toNat 0 := by unfold kd; rw [if_neg (by omega)]
    have := at_only c.toNat (by omega) (by rw [← hk]; exact e)
    rw [this] at hs
    cases hs
  · have e0 : (m0l.getD c.toNat none).isSome = false := by simpa using hs
    rcases sp_all c.toNat (by omega) e0 with e | e | e | e | e | e
    · rw [show c = 4 by omega]; exact m0_r4 i
    · rw [show c = 28 by omega]; exact m0_r28 i
    · rw [show c = 29 by omega]; exact m0_r29 i
    · rw [show c = 46 by omega]; exact m0_r46 i
    · rw [show c = 164 by omega]; exact m0_r164 i
    · rw [show c = 167 by omega]; exact m0_r167 i

theorem set_all : ∀ n, n < 194 → kdl.getD n 0 = 12 → m0l.getD n none = some (((m0l.getD n none).getD ([], 0)).1, 0) ∧ ((m0l.getD n none).getD ([], 0)).1.getD 0 0 = 0 ∧ ((m0l.getD n none).getD ([], 0)).1.getD 1 0 = 0 ∧ ((m0l.getD n none).getD ([], 0)).1.getD 2 0 = 0 := by decide +kernel
theorem m0_sh {n : Int} {c a m : Int} (h0 : M0 c 0 = 0) (h4 : M0 c 4 = m) (hm : ∀ i, M0 m i = 0) : ShOK n M0 c := ⟨fun i h1 h2 => by omega, fun i j h1 h2 => by omega, fun q h1 h2 h3 => absurd (by rw [h4]; exact hm q) h3⟩
theorem m0_xx : XX M0 := by
  refine ⟨fun c hc => ?_, fun c hc => ?_, fun c hc => ?_, fun c hc => ?_⟩
  · obtain ⟨h1, h2⟩ := kd_lt (c := c) (by rw [hc]; decide)
    have hk : kd c = kdl.getD c.toNat 0 := by unfold kd; rw [if_neg (by omega)]
    obtain ⟨e1, e2, e3, e4⟩ := set_all c.toNat (by omega) (by rw [← hk]; exact hc)
    rw [M0_ob e1 (by omega)]
    unfold obN
    rw [show (0 : Int).toNat = 0 from rfl, show (1 : Int).toNat = 1 from rfl, show (2 : Int).toNat = 2 from rfl, e2, e3, e4]
    decide
  · rw [un_A hc]; exact m0_sh (a := 0) (m := 34) rfl rfl (fun i => rfl)
  · rw [un_B hc]; exact m0_sh (a := 0) (m := 44) rfl rfl (fun i => rfl)
  · rw [un_C hc]; exact m0_sh (a := 0) (m := 39) rfl rfl (fun i => rfl)
theorem m0_yy : YY M0 := by
  intro s h0 h3 a k ha0 ha1 hk hl
  rw [M0_at, if_neg (by omega)] at hl
  omega

