theorem wd_c {b n : Nat} {G : KG} {M : Mem} {x : Nat × va_E} {t : va_W} (h : (G.2.1 (b : Int), ke G (kd (b : Int)) (M (b : Int))) = x) (ht : wd (b + 1) n G M = t) : wd b (n + 1) G M = x :: t := by
  subst h
  subst ht
  unfold wd
  rw [List.range_succ_eq_map, List.map_cons, List.map_map]
  refine congr (congrArg List.cons rfl) ?_
  refine List.map_congr_left (fun j _ => ?_)
  show _ = _
  simp only [Function.comp_apply, Nat.succ_eq_add_one, Nat.add_assoc, Nat.add_comm 1 j]
theorem up_fun (f : Nat → Int32) : (fun j : Nat => Int32.ofInt (upN f (j : Int))) = f := by
  funext j
  unfold upN
  rw [Int.toNat_natCast]
  exact z_ofto _
abbrev GG (k : jK) (D : va_G) (a1 a2 u v : Nat → Nat) : KG := (k, (fun c => if c.toNat < 163 then u c.toNat else v c.toNat), D, a1, a2)
set_option maxHeartbeats 8000000 in
set_option maxRecDepth 100000 in
theorem w0_C (k : jK) (D : va_G) (a1 a2 u v : Nat → Nat) : wD false (GG k D a1 a2 u v) M0 = [((u 0), .inr (10, [.int 0, .long 0, .long 1, .ref (u 1), .ref (u 5), .ref (u 68), .ref (u 9), .int 0, .ref (u 10), .ref (u 15), .ref (u 20), .ref (u 48), .ref (u 57), .ref (u 61), .int 0])), ((u 1), .inr (8, [.ref (u 2), .ref (u 3), .ref (u 4)])), ((u 2), .inl (k.2.2.1, 240, .inr (.inl (fun _ => 0)))), ((u 3), .inl (k.2.1, 4, .inl (fun _ => 0))), ((u 4), .inl (k.2.1, 4, .inl (upd (upd (upd (upd (fun _ => 0) 0 (-1)) 1 (-1)) 2 (-1)) 3 (-1)))), ((u 5), .inr (1, [.ref (u 87), .int 0, .int (-1), .int (-1), .ref (u 6), .int 0, .int 0, .int 0, .int 0, .int 0, .ref (u 7), .ref (u 8)])), ((u 6), .inl (k.1, 900, .inl (fun _ => 0))), ((u 7), .inl (k.2.1, 6, .inl (fun _ => 0))), ((u 8), .inl (k.2.1, 6, .inl (fun _ => 0))), ((u 9), .inl (k.2.2.2, 3, .inr (.inr (.inr (.inr (fun j => some (u (([106, 125, 144] : List Nat).getD j 144)))))))), ((u 10), .inr (6, [.int 0, .int 0, .ref (u 11), .ref (u 12), .ref (u 13), .ref (u 14)])), ((u 11), .inl (k.2.1, 40, .inl (fun _ => 0))), ((u 12), .inl (k.2.1, 40, .inl (fun _ => 0))), ((u 13), .inl (k.2.1, 512, .inl (fun _ => 0))), ((u 14), .inl (k.2.1, 160, .inl (fun _ => 0))), ((u 15), .inr (6, [.int 0, .int 0, .ref (u 16), .ref (u 17), .ref (u 18), .ref (u 19)])), ((u 16), .inl (k.2.1, 40, .inl (fun _ => 0))), ((u 17), .inl (k.2.1, 40, .inl (fun _ => 0))), ((u 18), .inl (k.2.1, 512, .inl (fun _ => 0))), ((u 19), .inl (k.2.1, 160, .inl (fun _ => 0))), ((u 20), .inr (3, [.ref (u 21), .ref (u 22), .int 0, .int 0, .int 0, .int 0, .ref (u 23), .ref (u 23), .ref (u 23), .int 0, .ref (u 30), .ref (u 35), .ref (u 40), .int 0, .ref (u 45), .ref (u 46), .ref (u 47)])), ((u 21), .inl (k.2.1, 16, .inl (fun _ => 0))), ((u 22), .inl (k.2.1, 16, .inl (fun _ => 0))), ((u 23), .inr (0, [.int 1, .int 1, .int 1, .int 1, .int 0, .int 0, .ref (u 24), .ref (u 25), .ref (u 26), .ref (u 27), .ref (u 28), .ref (u 29)])), ((u 24), .inl (k.2.1, 20, .inl (fun _ => 0))), ((u 25), .inl (k.2.1, 20, .inl (fun _ => 0))), ((u 26), .inl (k.2.1, 20, .inl (fun _ => 0))), ((u 27), .inl (k.2.1, 20, .inl (fun _ => 0))), ((u 28), .inl (k.2.1, 6, .inl (fun j => if j < 6 then 1 else (fun j => if j < 6 then 0 else (fun _ => 0) j) j))), ((u 29), .inl (k.2.1, 18, .inl (upd (upd (upd (upd (upd (upd (fun j => if j < 18 then 0 else (fun _ => 0) j) 0 1) 3 1) 6 1) 9 1) 12 1) 15 1))), ((u 30), .inr (5, [.int 0, .ref (u 31), .ref (u 32), .ref (u 33), .ref (u 34)])), ((u 31), .inl (k.2.1, 576, .inl (fun _ => 0))), ((u 32), .inl (k.2.1, 576, .inl (fun _ => 0))), ((u 33), .inl (k.2.1, 576, .inl (fun _ => 0))), ((u 34), .inl (k.2.1, 576, .inl (fun _ => 0))), ((u 35), .inr (5, [.int 0, .ref (u 36), .ref (u 37), .ref (u 38), .ref (u 39)])), ((u 36), .inl (k.2.1, 576, .inl (fun _ => 0))), ((u 37), .inl (k.2.1, 576, .inl (fun _ => 0))), ((u 38), .inl (k.2.1, 576, .inl (fun _ => 0))), ((u 39), .inl (k.2.1, 576, .inl (fun _ => 0))), ((u 40), .inr (5, [.int 0, .ref (u 41), .ref (u 42), .ref (u 43), .ref (u 44)])), ((u 41), .inl (k.2.1, 48, .inl (fun _ => 0))), ((u 42), .inl (k.2.1, 48, .inl (fun _ => 0))), ((u 43), .inl (k.2.1, 48, .inl (fun _ => 0))), ((u 44), .inl (k.2.1, 48, .inl (fun _ => 0))), ((u 45), .inl (k.2.1, 64, .inl (fun _ => 0))), ((u 46), .inl (k.2.1, 512, .inl (fun j => if j < 512 then (-1 : Int32) else 0))), ((u 47), .inl (k.2.1, 7, .inl (fun _ => 0))), ((u 48), .inr (7, [.int 0, .int 0, .int 0, .int 0, .ref (u 49), .ref (u 50), .ref (u 51), .int 0, .ref (u 52), .ref (u 53), .ref (u 54), .ref (u 55), .ref (u 56)])), ((u 49), .inl (k.2.1, 187, .inl (fun _ => 0))), ((u 50), .inl (k.2.1, 187, .inl (fun _ => 0))), ((u 51), .inl (k.2.1, 7, .inl (fun _ => 0))), ((u 52), .inl (k.2.1, 750, .inl (fun _ => 0))), ((u 53), .inl (k.2.1, 750, .inl (fun _ => 0))), ((u 54), .inl (k.2.1, 7, .inl (fun _ => 0))), ((u 55), .inl (k.2.1, 112, .inl (fun _ => 0))), ((u 56), .inl (k.2.1, 112, .inl (fun _ => 0))), ((u 57), .inr (9, [.int (-1), .int 0, .int 0, .int 0, .int 0, .ref (u 58), .ref (u 59), .ref (u 60)])), ((u 58), .inl (k.2.1, 30, .inl (fun _ => 0))), ((u 59), .inl (k.2.1, 30, .inl (fun _ => 0))), ((u 60), .inl (k.2.1, 30, .inl (fun _ => 0))), ((u 61), .inr (2, [.int 0, .ref (u 62), .ref (u 63), .ref (u 64), .ref (u 65), .ref (u 66), .ref (u 67)])), ((u 62), .inl (k.2.2.1, 9, .inr (.inl (fun _ => 0)))), ((u 63), .inl (k.2.2.1, 9, .inr (.inl (fun _ => 0)))), ((u 64), .inl (k.2.2.1, 180, .inr (.inl (fun _ => 0)))), ((u 65), .inl (k.2.1, 20, .inl (fun _ => 0))), ((u 66), .inl (k.2.2.1, 3, .inr (.inl (fun _ => 0)))), ((u 67), .inl (k.2.2.1, 3, .inr (.inl (fun _ => 0)))), ((u 68), .inr (4, [.int 0, .int 0, .int 0, .int 0, .ref (u 69), .ref (u 76), .ref (u 83)])), ((u 69), .inr (0, [.int 0, .int 0, .int 0, .int 0, .int 0, .int 0, .ref (u 70), .ref (u 71), .ref (u 72), .ref (u 73), .ref (u 74), .ref (u 75)])), ((u 70), .inl (k.2.1, 20, .inl (fun _ => 0))), ((u 71), .inl (k.2.1, 20, .inl (fun _ => 0))), ((u 72), .inl (k.2.1, 20, .inl (fun _ => 0))), ((u 73), .inl (k.2.1, 20, .inl (fun _ => 0))), ((u 74), .inl (k.2.1, 6, .inl (fun _ => 0))), ((u 75), .inl (k.2.1, 18, .inl (fun _ => 0))), ((u 76), .inr (0, [.int 0, .int 0, .int 0, .int 0, .int 0, .int 0, .ref (u 77), .ref (u 78), .ref (u 79), .ref (u 80), .ref (u 81), .ref (u 82)])), ((u 77), .inl (k.2.1, 20, .inl (fun _ => 0))), ((u 78), .inl (k.2.1, 20, .inl (fun _ => 0))), ((u 79), .inl (k.2.1, 20, .inl (fun _ => 0))), ((u 80), .inl (k.2.1, 20, .inl (fun _ => 0))), ((u 81), .inl (k.2.1, 6, .inl (fun _ => 0))), ((u 82), .inl (k.2.1, 18, .inl (fun _ => 0))), ((u 83), .inr (9, [.int (-1), .int 0, .int 0, .int 0, .int 0, .ref (u 84), .ref (u 85), .ref (u 86)])), ((u 84), .inl (k.2.1, 30, .inl (fun _ => 0))), ((u 85), .inl (k.2.1, 30, .inl (fun _ => 0))), ((u 86), .inl (k.2.1, 30, .inl (fun _ => 0))), ((u 87), .inr (4, [.int 0, .int 0, .int 0, .int 0, .ref (u 88), .ref (u 95), .ref (u 102)])), ((u 88), .inr (0, [.int 0, .int 0, .int 0, .int 0, .int 0, .int 0, .ref (u 89), .ref (u 90), .ref (u 91), .ref (u 92), .ref (u 93), .ref (u 94)])), ((u 89), .inl (k.2.1, 20, .inl (fun _ => 0))), ((u 90), .inl (k.2.1, 20, .inl (fun _ => 0))), ((u 91), .inl (k.2.1, 20, .inl (fun _ => 0))), ((u 92), .inl (k.2.1, 20, .inl (fun _ => 0))), ((u 93), .inl (k.2.1, 6, .inl (fun _ => 0))), ((u 94), .inl (k.2.1, 18, .inl (fun _ => 0))), ((u 95), .inr (0, [.int 0, .int 0, .int 0, .int 0, .int 0, .int 0, .ref (u 96), .ref (u 97), .ref (u 98), .ref (u 99), .ref (u 100), .ref (u 101)])), ((u 96), .inl (k.2.1, 20, .inl (fun _ => 0))), ((u 97), .inl (k.2.1, 20, .inl (fun _ => 0))), ((u 98), .inl (k.2.1, 20, .inl (fun _ => 0))), ((u 99), .inl (k.2.1, 20, .inl (fun _ => 0))), ((u 100), .inl (k.2.1, 6, .inl (fun _ => 0))), ((u 101), .inl (k.2.1, 18, .inl (fun _ => 0))), ((u 102), .inr (9, [.int (-1), .int 0, .int 0, .int 0, .int 0, .ref (u 103), .ref (u 104), .ref (u 105)])), ((u 103), .inl (k.2.1, 30, .inl (fun _ => 0))), ((u 104), .inl (k.2.1, 30, .inl (fun _ => 0))), ((u 105), .inl (k.2.1, 30, .inl (fun _ => 0))), ((u 106), .inr (4, [.int 0, .int 0, .int 0, .int 0, .ref (u 107), .ref (u 114), .ref (u 121)])), ((u 107), .inr (0, [.int 0, .int 0, .int 0, .int 0, .int 0, .int 0, .ref (u 108), .ref (u 109), .ref (u 110), .ref (u 111), .ref (u 112), .ref (u 113)])), ((u 108), .inl (k.2.1, 20, .inl (fun _ => 0))), ((u 109), .inl (k.2.1, 20, .inl (fun _ => 0))), ((u 110), .inl (k.2.1, 20, .inl (fun _ => 0))), ((u 111), .inl (k.2.1, 20, .inl (fun _ => 0))), ((u 112), .inl (k.2.1, 6, .inl (fun _ => 0))), ((u 113), .inl (k.2.1, 18, .inl (fun _ => 0))), ((u 114), .inr (0, [.int 0, .int 0, .int 0, .int 0, .int 0, .int 0, .ref (u 115), .ref (u 116), .ref (u 117), .ref (u 118), .ref (u 119), .ref (u 120)])), ((u 115), .inl (k.2.1, 20, .inl (fun _ => 0))), ((u 116), .inl (k.2.1, 20, .inl (fun _ => 0))), ((u 117), .inl (k.2.1, 20, .inl (fun _ => 0))), ((u 118), .inl (k.2.1, 20, .inl (fun _ => 0))), ((u 119), .inl (k.2.1, 6, .inl (fun _ => 0))), ((u 120), .inl (k.2.1, 18, .inl (fun _ => 0))), ((u 121), .inr (9, [.int (-1), .int 0, .int 0, .int 0, .int 0, .ref (u 122), .ref (u 123), .ref (u 124)])), ((u 122), .inl (k.2.1, 30, .inl (fun _ => 0))), ((u 123), .inl (k.2.1, 30, .inl (fun _ => 0))), ((u 124), .inl (k.2.1, 30, .inl (fun _ => 0))), ((u 125), .inr (4, [.int 0, .int 0, .int 0, .int 0, .ref (u 126), .ref (u 133), .ref (u 140)])), ((u 126), .inr (0, [.int 0, .int 0, .int 0, .int 0, .int 0, .int 0, .ref (u 127), .ref (u 128), .ref (u 129), .ref (u 130), .ref (u 131), .ref (u 132)])), ((u 127), .inl (k.2.1, 20, .inl (fun _ => 0))), ((u 128), .inl (k.2.1, 20, .inl (fun _ => 0))), ((u 129), .inl (k.2.1, 20, .inl (fun _ => 0))), ((u 130), .inl (k.2.1, 20, .inl (fun _ => 0))), ((u 131), .inl (k.2.1, 6, .inl (fun _ => 0))), ((u 132), .inl (k.2.1, 18, .inl (fun _ => 0))), ((u 133), .inr (0, [.int 0, .int 0, .int 0, .int 0, .int 0, .int 0, .ref (u 134), .ref (u 135), .ref (u 136), .ref (u 137), .ref (u 138), .ref (u 139)])), ((u 134), .inl (k.2.1, 20, .inl (fun _ => 0))), ((u 135), .inl (k.2.1, 20, .inl (fun _ => 0))), ((u 136), .inl (k.2.1, 20, .inl (fun _ => 0))), ((u 137), .inl (k.2.1, 20, .inl (fun _ => 0))), ((u 138), .inl (k.2.1, 6, .inl (fun _ => 0))), ((u 139), .inl (k.2.1, 18, .inl (fun _ => 0))), ((u 140), .inr (9, [.int (-1), .int 0, .int 0, .int 0, .int 0, .ref (u 141), .ref (u 142), .ref (u 143)])), ((u 141), .inl (k.2.1, 30, .inl (fun _ => 0))), ((u 142), .inl (k.2.1, 30, .inl (fun _ => 0))), ((u 143), .inl (k.2.1, 30, .inl (fun _ => 0))), ((u 144), .inr (4, [.int 0, .int 0, .int 0, .int 0, .ref (u 145), .ref (u 152), .ref (u 159)])), ((u 145), .inr (0, [.int 0, .int 0, .int 0, .int 0, .int 0, .int 0, .ref (u 146), .ref (u 147), .ref (u 148), .ref (u 149), .ref (u 150), .ref (u 151)])), ((u 146), .inl (k.2.1, 20, .inl (fun _ => 0))), ((u 147), .inl (k.2.1, 20, .inl (fun _ => 0))), ((u 148), .inl (k.2.1, 20, .inl (fun _ => 0))), ((u 149), .inl (k.2.1, 20, .inl (fun _ => 0))), ((u 150), .inl (k.2.1, 6, .inl (fun _ => 0))), ((u 151), .inl (k.2.1, 18, .inl (fun _ => 0))), ((u 152), .inr (0, [.int 0, .int 0, .int 0, .int 0, .int 0, .int 0, .ref (u 153), .ref (u 154), .ref (u 155), .ref (u 156), .ref (u 157), .ref (u 158)])), ((u 153), .inl (k.2.1, 20, .inl (fun _ => 0))), ((u 154), .inl (k.2.1, 20, .inl (fun _ => 0))), ((u 155), .inl (k.2.1, 20, .inl (fun _ => 0))), ((u 156), .inl (k.2.1, 20, .inl (fun _ => 0))), ((u 157), .inl (k.2.1, 6, .inl (fun _ => 0))), ((u 158), .inl (k.2.1, 18, .inl (fun _ => 0))), ((u 159), .inr (9, [.int (-1), .int 0, .int 0, .int 0, .int 0, .ref (u 160), .ref (u 161), .ref (u 162)])), ((u 160), .inl (k.2.1, 30, .inl (fun _ => 0))), ((u 161), .inl (k.2.1, 30, .inl (fun _ => 0))), ((u 162), .inl (k.2.1, 30, .inl (fun _ => 0)))] := by
  show wd 0 163 _ M0 = _
  refine wd_c (b := 0) (n := 162) rfl ?_
  refine wd_c (b := 1) (n := 161) rfl ?_
  refine wd_c (b := 2) (n := 160) rfl ?_
  refine wd_c (b := 3) (n := 159) rfl ?_
  refine wd_c (b := 4) (n := 158) (congrArg (fun q => ((u 4), (.inl (k.2.1, 4, .inl q) : va_E))) (up_fun (upd (upd (upd (upd (fun _ => 0) 0 (-1)) 1 (-1)) 2 (-1)) 3 (-1)))) ?_
  refine wd_c (b := 5) (n := 157) rfl ?_
  refine wd_c (b := 6) (n := 156) rfl ?_
  refine wd_c (b := 7) (n := 155) rfl ?_
  refine wd_c (b := 8) (n := 154) rfl ?_
  refine wd_c (b := 9) (n := 153) (congrArg (fun q => ((u 9), (.inl (k.2.2.2, 3, .inr (.inr (.inr (.inr q)))) : va_E))) (funext (fun j => by match j with | 0 => rfl | 1 => rfl | 2 => rfl | n + 3 => rfl))) ?_
  refine wd_c (b := 10) (n := 152) rfl ?_
  refine wd_c (b := 11) (n := 151) rfl ?_
  refine wd_c (b := 12) (n := 150) rfl ?_
  refine wd_c (b := 13) (n := 149) rfl ?_
  refine wd_c (b := 14) (n := 148) rfl ?_
  refine wd_c (b := 15) (n := 147) rfl ?_
  refine wd_c (b := 16) (n := 146) rfl ?_
  refine wd_c (b := 17) (n := 145) rfl ?_
  refine wd_c (b := 18) (n := 144) rfl ?_
  refine wd_c (b := 19) (n := 143) rfl ?_
  refine wd_c (b := 20) (n := 142) rfl ?_
  refine wd_c (b := 21) (n := 141) rfl ?_
  refine wd_c (b := 22) (n := 140) rfl ?_
  refine wd_c (b := 23) (n := 139) rfl ?_
  refine wd_c (b := 24) (n := 138) rfl ?_
  refine wd_c (b := 25) (n := 137) rfl ?_
  refine wd_c (b := 26) (n := 136) rfl ?_
  refine wd_c (b := 27) (n := 135) rfl ?_
  refine wd_c (b := 28) (n := 134) (congrArg (fun q => ((u 28), (.inl (k.2.1, 6, .inl q) : va_E))) (up_fun (fun j => if j < 6 then 1 else (fun j => if j < 6 then 0 else (fun _ => 0) j) j))) ?_
  refine wd_c (b := 29) (n := 133) (congrArg (fun q => ((u 29), (.inl (k.2.1, 18, .inl q) : va_E))) (up_fun (upd (upd (upd (upd (upd (upd (fun j => if j < 18 then 0 else (fun _ => 0) j) 0 1) 3 1) 6 1) 9 1) 12 1) 15 1))) ?_
  refine wd_c (b := 30) (n := 132) rfl ?_
  refine wd_c (b := 31) (n := 131) rfl ?_
  refine wd_c (b := 32) (n := 130) rfl ?_
  refine wd_c (b := 33) (n := 129) rfl ?_
  refine wd_c (b := 34) (n := 128) rfl ?_
  refine wd_c (b := 35) (n := 127) rfl ?_
  refine wd_c (b := 36) (n := 126) rfl ?_
  refine wd_c (b := 37) (n := 125) rfl ?_
  refine wd_c (b := 38) (n := 124) rfl ?_
  refine wd_c (b := 39) (n := 123) rfl ?_
  refine wd_c (b := 40) (n := 122) rfl ?_
  refine wd_c (b := 41) (n := 121) rfl ?_
  refine wd_c (b := 42) (n := 120) rfl ?_
  refine wd_c (b := 43) (n := 119) rfl ?_
  refine wd_c (b := 44) (n := 118) rfl ?_
  refine wd_c (b := 45) (n := 117) rfl ?_
  refine wd_c (b := 46) (n := 116) (congrArg (fun q => ((u 46), (.inl (k.2.1, 512, .inl q) : va_E))) (up_fun (fun j => if j < 512 then (-1 : Int32) else 0))) ?_
  refine wd_c (b := 47) (n := 115) rfl ?_
  refine wd_c (b := 48) (n := 114) rfl ?_
  refine wd_c (b := 49) (n := 113) rfl ?_
  refine wd_c (b := 50) (n := 112) rfl ?_
  refine wd_c (b := 51) (n := 111) rfl ?_
  refine wd_c (b := 52) (n := 110) rfl ?_
  refine wd_c (b := 53) (n := 109) rfl ?_
  refine wd_c (b := 54) (n := 108) rfl ?_
  refine wd_c (b := 55) (n := 107) rfl ?_
  refine wd_c (b := 56) (n := 106) rfl ?_
  refine wd_c (b := 57) (n := 105) rfl ?_
  refine wd_c (b := 58) (n := 104) rfl ?_
  refine wd_c (b := 59) (n := 103) rfl ?_
  refine wd_c (b := 60) (n := 102) rfl ?_
  refine wd_c (b := 61) (n := 101) rfl ?_
  refine wd_c (b := 62) (n := 100) rfl ?_
  refine wd_c (b := 63) (n := 99) rfl ?_
  refine wd_c (b := 64) (n := 98) rfl ?_
  refine wd_c (b := 65) (n := 97) rfl ?_
  refine wd_c (b := 66) (n := 96) rfl ?_
  refine wd_c (b := 67) (n := 95) rfl ?_
  refine wd_c (b := 68) (n := 94) rfl ?_
  refine wd_c (b := 69) (n := 93) rfl ?_
  refine wd_c (b := 70) (n := 92) rfl ?_
  refine wd_c (b := 71) (n := 91) rfl ?_
  refine wd_c (b := 72) (n := 90) rfl ?_
  refine wd_c (b := 73) (n := 89) rfl ?_
  refine wd_c (b := 74) (n := 88) rfl ?_
  refine wd_c (b := 75) (n := 87) rfl ?_
  refine wd_c (b := 76) (n := 86) rfl ?_
  refine wd_c (b := 77) (n := 85) rfl ?_
  refine wd_c (b := 78) (n := 84) rfl ?_
  refine wd_c (b := 79) (n := 83) rfl ?_
  refine wd_c (b := 80) (n := 82) rfl ?_
  refine wd_c (b := 81) (n := 81) rfl ?_
  refine wd_c (b := 82) (n := 80) rfl ?_
  refine wd_c (b := 83) (n := 79) rfl ?_
  refine wd_c (b := 84) (n := 78) rfl ?_
  refine wd_c (b := 85) (n := 77) rfl ?_
  refine wd_c (b := 86) (n := 76) rfl ?_
  refine wd_c (b := 87) (n := 75) rfl ?_
  refine wd_c (b := 88) (n := 74) rfl ?_
  refine wd_c (b := 89) (n := 73) rfl ?_
  refine wd_c (b := 90) (n := 72) rfl ?_
  refine wd_c (b := 91) (n := 71) rfl ?_
  refine wd_c (b := 92) (n := 70) rfl ?_
  refine wd_c (b := 93) (n := 69) rfl ?_
  refine wd_c (b := 94) (n := 68) rfl ?_
  refine wd_c (b := 95) (n := 67) rfl ?_
  refine wd_c (b := 96) (n := 66) rfl ?_
  refine wd_c (b := 97) (n := 65) rfl ?_
  refine wd_c (b := 98) (n := 64) rfl ?_
  refine wd_c (b := 99) (n := 63) rfl ?_
  refine wd_c (b := 100) (n := 62) rfl ?_
  refine wd_c (b := 101) (n := 61) rfl ?_
  refine wd_c (b := 102) (n := 60) rfl ?_
  refine wd_c (b := 103) (n := 59) rfl ?_
  refine wd_c (b := 104) (n := 58) rfl ?_
  refine wd_c (b := 105) (n := 57) rfl ?_
  refine wd_c (b := 106) (n := 56) rfl ?_
  refine wd_c (b := 107) (n := 55) rfl ?_
  refine wd_c (b := 108) (n := 54) rfl ?_
  refine wd_c (b := 109) (n := 53) rfl ?_
  refine wd_c (b := 110) (n := 52) rfl ?_
  refine wd_c (b := 111) (n := 51) rfl ?_
  refine wd_c (b := 112) (n := 50) rfl ?_
  refine wd_c (b := 113) (n := 49) rfl ?_
  refine wd_c (b := 114) (n := 48) rfl ?_
  refine wd_c (b := 115) (n := 47) rfl ?_
  refine wd_c (b := 116) (n := 46) rfl ?_
  refine wd_c (b := 117) (n := 45) rfl ?_
  refine wd_c (b := 118) (n := 44) rfl ?_
  refine wd_c (b := 119) (n := 43) rfl ?_
  refine wd_c (b := 120) (n := 42) rfl ?_
  refine wd_c (b := 121) (n := 41) rfl ?_
  refine wd_c (b := 122) (n := 40) rfl ?_
  refine wd_c (b := 123) (n := 39) rfl ?_
  refine wd_c (b := 124) (n := 38) rfl ?_
  refine wd_c (b := 125) (n := 37) rfl ?_
  refine wd_c (b := 126) (n := 36) rfl ?_
  refine wd_c (b := 127) (n := 35) rfl ?_
  refine wd_c (b := 128) (n := 34) rfl ?_
  refine wd_c (b := 129) (n := 33) rfl ?_
  refine wd_c (b := 130) (n := 32) rfl ?_
  refine wd_c (b := 131) (n := 31) rfl ?_
  refine wd_c (b := 132) (n := 30) rfl ?_
  refine wd_c (b := 133) (n := 29) rfl ?_
  refine wd_c (b := 134) (n := 28) rfl ?_
  refine wd_c (b := 135) (n := 27) rfl ?_
  refine wd_c (b := 136) (n := 26) rfl ?_
  refine wd_c (b := 137) (n := 25) rfl ?_
  refine wd_c (b := 138) (n := 24) rfl ?_
  refine wd_c (b := 139) (n := 23) rfl ?_
  refine wd_c (b := 140) (n := 22) rfl ?_
  refine wd_c (b := 141) (n := 21) rfl ?_
  refine wd_c (b := 142) (n := 20) rfl ?_
  refine wd_c (b := 143) (n := 19) rfl ?_
  refine wd_c (b := 144) (n := 18) rfl ?_
  refine wd_c (b := 145) (n := 17) rfl ?_
  refine wd_c (b := 146) (n := 16) rfl ?_
  refine wd_c (b := 147) (n := 15) rfl ?_
  refine wd_c (b := 148) (n := 14) rfl ?_
  refine wd_c (b := 149) (n := 13) rfl ?_
  refine wd_c (b := 150) (n := 12) rfl ?_
  refine wd_c (b := 151) (n := 11) rfl ?_
  refine wd_c (b := 152) (n := 10) rfl ?_
  refine wd_c (b := 153) (n := 9) rfl ?_
  refine wd_c (b := 154) (n := 8) rfl ?_
  refine wd_c (b := 155) (n := 7) rfl ?_
  refine wd_c (b := 156) (n := 6) rfl ?_
  refine wd_c (b := 157) (n := 5) rfl ?_
  refine wd_c (b := 158) (n := 4) rfl ?_
  refine wd_c (b := 159) (n := 3) rfl ?_
  refine wd_c (b := 160) (n := 2) rfl ?_
  refine wd_c (b := 161) (n := 1) rfl ?_
  refine wd_c (b := 162) (n := 0) rfl ?_
  rfl
set_option maxHeartbeats 8000000 in
set_option maxRecDepth 100000 in
theorem w0_M (k : jK) (D : va_G) (a1 a2 u v : Nat → Nat) : wD true (GG k D a1 a2 u v) M0 = [((v 163), .inr (11, [.ref (v 164), .ref (v 165), .int 0, .long 0, .long 1, .ref (v 166), .ref (v 167), .ref (v 168), .ref (v 169), .ref (v 170), .int 0, .int 0, .int 0, .int 0, .int 0, .int 0, .int (-1), .int (-1), .int 0, .int 0, .ref (v 171), .ref (v 172), .ref (v 173), .ref (v 174), .ref (v 175), .ref (v 176), .ref (v 177), .ref (v 178), .ref (v 179), .ref (v 180), .int 0, .int 0, .int 0, .ref (v 181), .ref (v 182), .int 0, .ref (v 183), .ref (v 184), .ref (v 185), .ref (v 186), .ref (v 187), .ref (v 188), .ref (v 189), .ref (v 190), .ref (v 191), .int 0, .ref (v 192), .ref (v 193), .int 0, .int 0, .int 0])), ((v 164), .inl (k.2.1, 1360, .inl (upd (fun _ => (0 : Int32)) 4 (-1)))), ((v 165), .inl (k.2.2.1, 36, .inr (.inl (fun _ => 0)))), ((v 166), .inl (k.2.1, 4, .inl (fun _ => 0))), ((v 167), .inl (k.2.1, 4, .inl (upd (upd (upd (upd (fun _ => 0) 0 (-1)) 1 (-1)) 2 (-1)) 3 (-1)))), ((v 168), .inl (k.2.2.1, 240, .inr (.inl (fun _ => 0)))), ((v 169), .inl (k.1, 900, .inl (fun _ => 0))), ((v 170), .inl (k.1, 900, .inl (fun _ => 0))), ((v 171), .inl (k.2.1, 162, .inl (fun _ => 0))), ((v 172), .inl (k.2.1, 42, .inl (fun _ => 0))), ((v 173), .inl (k.2.1, 42, .inl (fun _ => 0))), ((v 174), .inl (k.2.1, 21, .inl (fun _ => 0))), ((v 175), .inl (k.2.1, 21, .inl (fun _ => 0))), ((v 176), .inl (k.2.2.1, 63, .inr (.inl (fun _ => 0)))), ((v 177), .inl (k.2.2.1, 189, .inr (.inl (fun _ => 0)))), ((v 178), .inl (k.2.2.1, 9, .inr (.inl (fun _ => 0)))), ((v 179), .inl (k.2.2.1, 9, .inr (.inl (fun _ => 0)))), ((v 180), .inl (k.2.1, 20, .inl (fun _ => 0))), ((v 181), .inl (k.2.1, 41, .inl (fun _ => 0))), ((v 182), .inl (k.2.1, 41, .inl (fun _ => 0))), ((v 183), .inl (k.2.1, 81, .inl (fun _ => 0))), ((v 184), .inl (k.2.1, 81, .inl (fun _ => 0))), ((v 185), .inl (k.2.1, 9, .inl (fun _ => 0))), ((v 186), .inl (k.2.1, 9, .inl (fun _ => 0))), ((v 187), .inl (k.2.1, 64, .inl (fun _ => 0))), ((v 188), .inl (k.2.1, 576, .inl (fun _ => 0))), ((v 189), .inl (k.2.1, 576, .inl (fun _ => 0))), ((v 190), .inl (k.2.1, 24, .inl (fun _ => 0))), ((v 191), .inl (k.2.1, 24, .inl (fun _ => 0))), ((v 192), .inl (k.2.1, 6, .inl (fun _ => 0))), ((v 193), .inl (k.2.1, 7, .inl (fun _ => 0)))] := by
  show wd 163 31 _ M0 = _
  refine wd_c (b := 163) (n := 30) rfl ?_
  refine wd_c (b := 164) (n := 29) (congrArg (fun q => ((v 164), (.inl (k.2.1, 1360, .inl q) : va_E))) (up_fun (upd (fun _ => (0 : Int32)) 4 (-1)))) ?_
  refine wd_c (b := 165) (n := 28) rfl ?_
  refine wd_c (b := 166) (n := 27) rfl ?_
  refine wd_c (b := 167) (n := 26) (congrArg (fun q => ((v 167), (.inl (k.2.1, 4, .inl q) : va_E))) (up_fun (upd (upd (upd (upd (fun _ => 0) 0 (-1)) 1 (-1)) 2 (-1)) 3 (-1)))) ?_
  refine wd_c (b := 168) (n := 25) rfl ?_
  refine wd_c (b := 169) (n := 24) rfl ?_
  refine wd_c (b := 170) (n := 23) rfl ?_
  refine wd_c (b := 171) (n := 22) rfl ?_
  refine wd_c (b := 172) (n := 21) rfl ?_
  refine wd_c (b := 173) (n := 20) rfl ?_
  refine wd_c (b := 174) (n := 19) rfl ?_
  refine wd_c (b := 175) (n := 18) rfl ?_
  refine wd_c (b := 176) (n := 17) rfl ?_
  refine wd_c (b := 177) (n := 16) rfl ?_
  refine wd_c (b := 178) (n := 15) rfl ?_
  refine wd_c (b := 179) (n := 14) rfl ?_
  refine wd_c (b := 180) (n := 13) rfl ?_
  refine wd_c (b := 181) (n := 12) rfl ?_
  refine wd_c (b := 182) (n := 11) rfl ?_
  refine wd_c (b := 183) (n := 10) rfl ?_
  refine wd_c (b := 184) (n := 9) rfl ?_
  refine wd_c (b := 185) (n := 8) rfl ?_
  refine wd_c (b := 186) (n := 7) rfl ?_
  refine wd_c (b := 187) (n := 6) rfl ?_
  refine wd_c (b := 188) (n := 5) rfl ?_
  refine wd_c (b := 189) (n := 4) rfl ?_
  refine wd_c (b := 190) (n := 3) rfl ?_
  refine wd_c (b := 191) (n := 2) rfl ?_
  refine wd_c (b := 192) (n := 1) rfl ?_
  refine wd_c (b := 193) (n := 0) rfl ?_
  rfl
