set_option maxHeartbeats 4000000 in
theorem lw_step {G : KG} {X : KX} {l : Launch} {b L : Nat} {sq : Nat → Int32} {ce sl : Nat} (F : kF false G X l code RL 4 (some .boolean) room_1) (S : LSq X b L sq) (hL : L ≤ 3072) (hcr : ce ≤ 600000 ∧ sl ≤ 7302250) (hE : ∀ (M N : Mem) (lo : List (Option Value)), LJ G X ce sl M N 2056 lo []) {M N : Mem} {i : Int} (hI : Inv false M) (hX : XX M) (hJ : Inv true N) (hY : YY N) (hm : Tie M N) (hi0 : 0 ≤ i ∧ i ≤ L) (K0 : i + 6 ≤ L → ∀ M N : Mem, Inv false M → XX M → Inv true N → YY N → Tie M N → LJ G X ce sl M N 18 [some (.ref b), some (vR G 0), some (vR G 163), some (vI (i + 6))] []) : LJ G X ce sl M N 18 [some (.ref b), some (vR G 0), some (vR G 163), some (vI i)] [] := by
  refine kw_iload_n 19 F 3 dL_law_18 rfl rfl rfl ?_
  refine kw_aload_n 20 F 0 dL_law_19 rfl rfl rfl ?_
  refine kw_slen 21 F S dL_law_20 rfl ?_
  refine kw_bipush 23 F dL_law_21 (by decide) rfl ?_
  refine kw_isub 24 F (v := (L : Int) - 6) dL_law_23 rfl rfl ?_
  refine kw_icmp_gt 27 F 2056 dL_law_24 (by decide) rfl (by omega) (by omega) (fun h1 => hE M N _) (fun h1 => ?_)
  have hi : 0 ≤ i ∧ i + 6 ≤ L := by omega
  have K : ∀ M N : Mem, Inv false M → XX M → Inv true N → YY N → Tie M N → LJ G X ce sl M N 2050 [some (.ref b), some (vR G 0), some (vR G 163), some (vI i)] [] := by
    intro M N a1 a2 a3 a4 a5
    refine kw_iinc 2053 F 3 (v := i + 6) dL_law_2050 rfl rfl (by decide) rfl rfl rfl ?_
    refine kw_goto 18 F dL_law_2053 (by decide) ?_
    exact K0 hi.2 M N a1 a2 a3 a4 a5
  refine kw_aload_n 28 F 0 dL_law_27 rfl rfl rfl ?_
  refine kw_iload_n 29 F 3 dL_law_28 rfl rfl rfl ?_
  refine kw_sld 30 F S hL (z := i) (by omega) dL_law_29 rfl ?_
  refine kw_bipush 32 F dL_law_30 (by decide) rfl ?_
  obtain ⟨x, hx⟩ : ∃ x, zand (sv sq i) 63 = x := ⟨_, rfl⟩
  have hr : -2147483648 ≤ x ∧ x ≤ 2147483647 := by rw [← hx]; exact z_rng _
  refine kw_iand 33 F (v := x) dL_law_32 hx rfl ?_
  clear hx
  by_cases h0_ : x = 0
  · subst h0_; exact kw_tableIn 248 F (by decide) dL_law_33 (by decide) rfl (by decide) (lc_status F S hL hcr hI hX hJ hY hm hi K)
  by_cases h1_ : x = 1
  · subst h1_; exact kw_tableIn 261 F (by decide) dL_law_33 (by decide) rfl (by decide) (lc_top F S hL hcr hI hX hJ hY hm hi K)
  by_cases h2_ : x = 2
  · subst h2_; exact kw_tableIn 274 F (by decide) dL_law_33 (by decide) rfl (by decide) (lc_bottom F S hL hcr hI hX hJ hY hm hi K)
  by_cases h3_ : x = 3
  · subst h3_; exact kw_tableIn 287 F (by decide) dL_law_33 (by decide) rfl (by decide) (lc_tray F S hL hcr hI hX hJ hY hm hi K)
  by_cases h4_ : x = 4
  · subst h4_; exact kw_tableIn 330 F (by decide) dL_law_33 (by decide) rfl (by decide) (lc_write F S hL hcr hI hX hJ hY hm hi K)
  by_cases h5_ : x = 5
  · subst h5_; exact kw_tableIn 403 F (by decide) dL_law_33 (by decide) rfl (by decide) (lc_read F S hL hcr hI hX hJ hY hm hi K)
  by_cases h6_ : x = 6
  · subst h6_; exact kw_tableIn 437 F (by decide) dL_law_33 (by decide) rfl (by decide) (lc_pour F S hL hcr hI hX hJ hY hm hi K)
  by_cases h7_ : x = 7
  · subst h7_; exact kw_tableIn 500 F (by decide) dL_law_33 (by decide) rfl (by decide) (lc_feed F S hL hcr hI hX hJ hY hm hi K)
  by_cases h8_ : x = 8
  · subst h8_; exact kw_tableIn 563 F (by decide) dL_law_33 (by decide) rfl (by decide) (lc_checker F S hL hcr hI hX hJ hY hm hi K)
  by_cases h9_ : x = 9
  · subst h9_; exact kw_tableIn 586 F (by decide) dL_law_33 (by decide) rfl (by decide) (lc_fault F S hL hcr hI hX hJ hY hm hi K)
  by_cases h10_ : x = 10
  · subst h10_; exact kw_tableIn 609 F (by decide) dL_law_33 (by decide) rfl (by decide) (lc_told F S hL hcr hI hX hJ hY hm hi K)
  by_cases h11_ : x = 11
  · subst h11_; exact kw_tableIn 632 F (by decide) dL_law_33 (by decide) rfl (by decide) (lc_automaton F S hL hcr hI hX hJ hY hm hi K)
  by_cases h12_ : x = 12
  · subst h12_; exact kw_tableIn 665 F (by decide) dL_law_33 (by decide) rfl (by decide) (lc_rule F S hL hcr hI hX hJ hY hm hi K)
  by_cases h13_ : x = 13
  · subst h13_; exact kw_tableIn 708 F (by decide) dL_law_33 (by decide) rfl (by decide) (lc_add F S hL hcr hI hX hJ hY hm hi K)
  by_cases h14_ : x = 14
  · subst h14_; exact kw_tableIn 771 F (by decide) dL_law_33 (by decide) rfl (by decide) (lc_drop F S hL hcr hI hX hJ hY hm hi K)
  by_cases h15_ : x = 15
  · subst h15_; exact kw_tableIn 804 F (by decide) dL_law_33 (by decide) rfl (by decide) (lc_start F S hL hcr hI hX hJ hY hm hi K)
  by_cases h16_ : x = 16
  · subst h16_; exact kw_tableIn 863 F (by decide) dL_law_33 (by decide) rfl (by decide) (lc_accept F S hL hcr hI hX hJ hY hm hi K)
  by_cases h17_ : x = 17
  · subst h17_; exact kw_tableIn 922 F (by decide) dL_law_33 (by decide) rfl (by decide) (lc_copy F S hL hcr hI hX hJ hY hm hi K)
  by_cases h18_ : x = 18
  · subst h18_; exact kw_tableIn 955 F (by decide) dL_law_33 (by decide) rfl (by decide) (lc_takes F S hL hcr hI hX hJ hY hm hi K)
  by_cases h19_ : x = 19
  · subst h19_; exact kw_tableIn 998 F (by decide) dL_law_33 (by decide) rfl (by decide) (lc_ends F S hL hcr hI hX hJ hY hm hi K)
  by_cases h20_ : x = 20
  · subst h20_; exact kw_tableIn 1041 F (by decide) dL_law_33 (by decide) rfl (by decide) (lc_runs F S hL hcr hI hX hJ hY hm hi K)
  by_cases h21_ : x = 21
  · subst h21_; exact kw_tableIn 1084 F (by decide) dL_law_33 (by decide) rfl (by decide) (lc_depth F S hL hcr hI hX hJ hY hm hi K)
  by_cases h22_ : x = 22
  · subst h22_; exact kw_tableIn 1127 F (by decide) dL_law_33 (by decide) rfl (by decide) (lc_partner F S hL hcr hI hX hJ hY hm hi K)
  by_cases h23_ : x = 23
  · subst h23_; exact kw_tableIn 1170 F (by decide) dL_law_33 (by decide) rfl (by decide) (lc_table F S hL hcr hI hX hJ hY hm hi K)
  by_cases h24_ : x = 24
  · subst h24_; exact kw_tableIn 1193 F (by decide) dL_law_33 (by decide) rfl (by decide) (lc_summary F S hL hcr hI hX hJ hY hm hi K)
  by_cases h25_ : x = 25
  · subst h25_; exact kw_tableIn 1236 F (by decide) dL_law_33 (by decide) rfl (by decide) (lc_next F S hL hcr hI hX hJ hY hm hi K)
  by_cases h26_ : x = 26
  · subst h26_; exact kw_tableIn 1279 F (by decide) dL_law_33 (by decide) rfl (by decide) (lc_nextBack F S hL hcr hI hX hJ hY hm hi K)
  by_cases h27_ : x = 27
  · subst h27_; exact kw_tableIn 1342 F (by decide) dL_law_33 (by decide) rfl (by decide) (lc_well F S hL hcr hI hX hJ hY hm hi K)
  by_cases h28_ : x = 28
  · subst h28_; exact kw_tableIn 1385 F (by decide) dL_law_33 (by decide) rfl (by decide) (lc_reaches F S hL hcr hI hX hJ hY hm hi K)
  by_cases h29_ : x = 29
  · subst h29_; exact kw_tableIn 1408 F (by decide) dL_law_33 (by decide) rfl (by decide) (lc_shortest F S hL hcr hI hX hJ hY hm hi K)
  by_cases h30_ : x = 30
  · subst h30_; exact kw_tableIn 1431 F (by decide) dL_law_33 (by decide) rfl (by decide) (lc_shortestAt F S hL hcr hI hX hJ hY hm hi K)
  by_cases h31_ : x = 31
  · subst h31_; exact kw_tableIn 1464 F (by decide) dL_law_33 (by decide) rfl (by decide) (lc_both F S hL hcr hI hX hJ hY hm hi K)
  by_cases h32_ : x = 32
  · subst h32_; exact kw_tableIn 1497 F (by decide) dL_law_33 (by decide) rfl (by decide) (lc_bothAt F S hL hcr hI hX hJ hY hm hi K)
  by_cases h33_ : x = 33
  · subst h33_; exact kw_tableIn 1540 F (by decide) dL_law_33 (by decide) rfl (by decide) (lc_parting F S hL hcr hI hX hJ hY hm hi K)
  by_cases h34_ : x = 34
  · subst h34_; exact kw_tableIn 1573 F (by decide) dL_law_33 (by decide) rfl (by decide) (lc_partingAt F S hL hcr hI hX hJ hY hm hi K)
  by_cases h35_ : x = 35
  · subst h35_; exact kw_tableIn 1616 F (by decide) dL_law_33 (by decide) rfl (by decide) (lc_missing F S hL hcr hI hX hJ hY hm hi K)
  by_cases h36_ : x = 36
  · subst h36_; exact kw_tableIn 1639 F (by decide) dL_law_33 (by decide) rfl (by decide) (lc_missingAt F S hL hcr hI hX hJ hY hm hi K)
  by_cases h37_ : x = 37
  · subst h37_; exact kw_tableIn 1672 F (by decide) dL_law_33 (by decide) rfl (by decide) (lc_includes F S hL hcr hI hX hJ hY hm hi K)
  by_cases h38_ : x = 38
  · subst h38_; exact kw_tableIn 1705 F (by decide) dL_law_33 (by decide) rfl (by decide) (lc_equal F S hL hcr hI hX hJ hY hm hi K)
  by_cases h39_ : x = 39
  · subst h39_; exact kw_tableIn 1738 F (by decide) dL_law_33 (by decide) rfl (by decide) (lc_count F S hL hcr hI hX hJ hY hm hi K)
  by_cases h40_ : x = 40
  · subst h40_; exact kw_tableIn 1771 F (by decide) dL_law_33 (by decide) rfl (by decide) (lc_share F S hL hcr hI hX hJ hY hm hi K)
  by_cases h41_ : x = 41
  · subst h41_; exact kw_tableIn 1804 F (by decide) dL_law_33 (by decide) rfl (by decide) (lc_lastAt F S hL hcr hI hX hJ hY hm hi K)
  by_cases h42_ : x = 42
  · subst h42_; exact kw_tableIn 1847 F (by decide) dL_law_33 (by decide) rfl (by decide) (lc_sample F S hL hcr hI hX hJ hY hm hi K)
  by_cases h43_ : x = 43
  · subst h43_; exact kw_tableIn 1890 F (by decide) dL_law_33 (by decide) rfl (by decide) (lc_chance F S hL hcr hI hX hJ hY hm hi K)
  by_cases h44_ : x = 44
  · subst h44_; exact kw_tableIn 1943 F (by decide) dL_law_33 (by decide) rfl (by decide) (lc_watch F S hL hcr hI hX hJ hY hm hi K)
  by_cases h45_ : x = 45
  · subst h45_; exact kw_tableIn 1966 F (by decide) dL_law_33 (by decide) rfl (by decide) (lc_see F S hL hcr hI hX hJ hY hm hi K)
  by_cases h46_ : x = 46
  · subst h46_; exact kw_tableIn 1989 F (by decide) dL_law_33 (by decide) rfl (by decide) (lc_seen F S hL hcr hI hX hJ hY hm hi K)
  by_cases h47_ : x = 47
  · subst h47_; exact kw_tableIn 2012 F (by decide) dL_law_33 (by decide) rfl (by decide) (lc_doomed F S hL hcr hI hX hJ hY hm hi K)
  by_cases h48_ : x = 48
  · subst h48_; exact kw_tableIn 2025 F (by decide) dL_law_33 (by decide) rfl (by decide) (lc_mark F S hL hcr hI hX hJ hY hm hi K)
  by_cases h49_ : x = 49
  · subst h49_; exact kw_tableIn 2038 F (by decide) dL_law_33 (by decide) rfl (by decide) (lc_undo F S hL hcr hI hX hJ hY hm hi K)
  exact kw_tableOut 2050 F hr dL_law_33 (by omega) (by decide) (K M N hI hX hJ hY hm)
theorem lw_loop {G : KG} {X : KX} {l : Launch} {b L : Nat} {sq : Nat → Int32} {ce sl : Nat} (F : kF false G X l code RL 4 (some .boolean) room_1) (S : LSq X b L sq) (hL : L ≤ 3072) (hcr : ce ≤ 600000 ∧ sl ≤ 7302250) (hE : ∀ (M N : Mem) (lo : List (Option Value)), LJ G X ce sl M N 2056 lo []) : ∀ (n : Nat) (i : Int), 0 ≤ i ∧ i ≤ L → (L : Int) - i ≤ n → ∀ M N : Mem, Inv false M → XX M → Inv true N → YY N → Tie M N → LJ G X ce sl M N 18 [some (.ref b), some (vR G 0), some (vR G 163), some (vI i)] [] := by
  intro n
  induction n with
  | zero => exact fun i hi hn M N a1 a2 a3 a4 a5 => lw_step F S hL hcr hE a1 a2 a3 a4 a5 hi (fun h => absurd h (by omega))
  | succ n ih => exact fun i hi hn M N a1 a2 a3 a4 a5 => lw_step F S hL hcr hE a1 a2 a3 a4 a5 hi (fun h M N b1 b2 b3 b4 b5 => ih (i + 6) (by omega) (by omega) M N b1 b2 b3 b4 b5)
