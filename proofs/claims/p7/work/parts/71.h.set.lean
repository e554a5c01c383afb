def zRW (N M : Mem) : Prop := ∀ i, (i < 4 ∨ 100 ≤ i) → N 164 i = M 164 i
theorem zRW.rf (M : Mem) : zRW M M := fun _ _ => rfl
theorem zRW.fr {L : List (Nat × Int)} {M N P : Mem} (h : zRW N M) (hF : Fr L N P) (hL : L.all (fun p => !(p.1 == 65)) = true) : zRW P M := fun j hj => by rw [hF.e kd_164 j (fin_no hL)]; exact h j hj
theorem zRW.trans {M N P : Mem} (h : zRW N M) (h2 : zRW P N) : zRW P M := fun j hj => (h2 j hj).trans (h j hj)
