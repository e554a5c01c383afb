set_option maxHeartbeats 4000000 in
set_option maxRecDepth 100000 in
theorem c_lettersE (G : KG) (l : Launch) (M : Mem) (hI_M : Inv true M) : KC true G l yX12_letters cX12_letters 1 (some .int) (0, 0) [vR G 163] M (fun A => kQi true G A (fun (r : Int) (N : Mem) => M = N ∧ (r = (M 164 0) + (M 164 1) + (M 164 2) ∧ r ≥ 0 ∧ r ≤ 6))) := by
  refine kx_met (lo := [some (vR G 163)]) (by decide) (Nat.le_of_ble_eq_true rfl) rfl ?_
  intro X F hQ
  refine kx_aload_n 1 F 0 dX12_letters_0 rfl rfl rfl ?_
  refine kx_getr 4 F fl_X12_7 kd_163 rfl rfl (j := 0) rfl dX12_letters_1 (v := 164) (uq_164 (Inv.r hI_M kd_163 rfl 0 rfl rfl)) rfl ?_
  refine kx_iconst 5 F dX12_letters_4 rfl ?_
  refine kx_iald 6 F kd_164 rfl rfl (by omega) (by decide) dX12_letters_5 (v := (M 164 0)) rfl rfl ?_
  have ha_1 : atlo 0 = 0 ∧ athi 0 = 2 := at_c 0 0 (o := 0) (lo := 0) (hi := 2) (by omega) (by decide) (by decide) (by decide)
  have h_2 := Inv.g hI_M kd_164 rfl 0 (a := 0) (b := 2) ha_1.1 ha_1.2
  refine kx_aload_n 7 F 0 dX12_letters_6 rfl rfl rfl ?_
  refine kx_getr 10 F fl_X12_7 kd_163 rfl rfl (j := 0) rfl dX12_letters_7 (v := 164) (uq_164 (Inv.r hI_M kd_163 rfl 0 rfl rfl)) rfl ?_
  refine kx_iconst 11 F dX12_letters_10 rfl ?_
  refine kx_iald 12 F kd_164 rfl rfl (by omega) (by decide) dX12_letters_11 (v := (M 164 1)) rfl rfl ?_
  have ha_3 : atlo 1 = 0 ∧ athi 1 = 2 := at_c 1 0 (o := 1) (lo := 0) (hi := 2) (by omega) (by decide) (by decide) (by decide)
  have h_4 := Inv.g hI_M kd_164 rfl 1 (a := 0) (b := 2) ha_3.1 ha_3.2
  refine kx_iadd 13 F (v := (M 164 0) + (M 164 1)) dX12_letters_12 rfl rfl ?_
  refine kx_aload_n 14 F 0 dX12_letters_13 rfl rfl rfl ?_
  refine kx_getr 17 F fl_X12_7 kd_163 rfl rfl (j := 0) rfl dX12_letters_14 (v := 164) (uq_164 (Inv.r hI_M kd_163 rfl 0 rfl rfl)) rfl ?_
  refine kx_iconst 18 F dX12_letters_17 rfl ?_
  refine kx_iald 19 F kd_164 rfl rfl (by omega) (by decide) dX12_letters_18 (v := (M 164 2)) rfl rfl ?_
  have ha_5 : atlo 2 = 0 ∧ athi 2 = 2 := at_c 2 0 (o := 2) (lo := 0) (hi := 2) (by omega) (by decide) (by decide) (by decide)
  have h_6 := Inv.g hI_M kd_164 rfl 2 (a := 0) (b := 2) ha_5.1 ha_5.2
  refine kx_iadd 20 F (v := (M 164 0) + (M 164 1) + (M 164 2)) dX12_letters_19 rfl rfl ?_
  exact kx_iret F hQ ⟨rfl, (by omega)⟩ dX12_letters_20
set_option maxRecDepth 100000 in
theorem dGR_28_c_869 : (decode cX12_tellsBy 0 = .ok (.lload_n 1, 1)) ∧ (decode cX12_tellsBy 1 = .ok (.lstore 5, 2)) ∧ (decode cX12_tellsBy 3 = .ok (.lload_n 3, 1)) ∧ (decode cX12_tellsBy 4 = .ok (.lstore 7, 2)) ∧ (decode cX12_tellsBy 6 = .ok (.lload 7, 2)) ∧ (decode cX12_tellsBy 8 = .ok (.lconst 0, 1)) ∧ (decode cX12_tellsBy 9 = .ok (.lcmp, 1)) ∧ (decode cX12_tellsBy 10 = .ok (.ifCond .eq 21, 3)) ∧ (decode cX12_tellsBy 13 = .ok (.lload 5, 2)) ∧ (decode cX12_tellsBy 15 = .ok (.lload 7, 2)) ∧ (decode cX12_tellsBy 17 = .ok (.lrem, 1)) ∧ (decode cX12_tellsBy 18 = .ok (.lstore 9, 2)) := by decide +kernel
theorem dX12_tellsBy_0 : decode cX12_tellsBy 0 = .ok (.lload_n 1, 1) := dGR_28_c_869.1
theorem dX12_tellsBy_1 : decode cX12_tellsBy 1 = .ok (.lstore 5, 2) := dGR_28_c_869.2.1
theorem dX12_tellsBy_3 : decode cX12_tellsBy 3 = .ok (.lload_n 3, 1) := dGR_28_c_869.2.2.1
theorem dX12_tellsBy_4 : decode cX12_tellsBy 4 = .ok (.lstore 7, 2) := dGR_28_c_869.2.2.2.1
theorem dX12_tellsBy_6 : decode cX12_tellsBy 6 = .ok (.lload 7, 2) := dGR_28_c_869.2.2.2.2.1
theorem dX12_tellsBy_8 : decode cX12_tellsBy 8 = .ok (.lconst 0, 1) := dGR_28_c_869.2.2.2.2.2.1
theorem dX12_tellsBy_9 : decode cX12_tellsBy 9 = .ok (.lcmp, 1) := dGR_28_c_869.2.2.2.2.2.2.1
theorem dX12_tellsBy_10 : decode cX12_tellsBy 10 = .ok (.ifCond .eq 21, 3) := dGR_28_c_869.2.2.2.2.2.2.2.1
theorem dX12_tellsBy_13 : decode cX12_tellsBy 13 = .ok (.lload 5, 2) := dGR_28_c_869.2.2.2.2.2.2.2.2.1
theorem dX12_tellsBy_15 : decode cX12_tellsBy 15 = .ok (.lload 7, 2) := dGR_28_c_869.2.2.2.2.2.2.2.2.2.1
theorem dX12_tellsBy_17 : decode cX12_tellsBy 17 = .ok (.lrem, 1) := dGR_28_c_869.2.2.2.2.2.2.2.2.2.2.1
theorem dX12_tellsBy_18 : decode cX12_tellsBy 18 = .ok (.lstore 9, 2) := dGR_28_c_869.2.2.2.2.2.2.2.2.2.2.2
set_option maxRecDepth 100000 in
theorem dGR_28_c_870 : (decode cX12_tellsBy 20 = .ok (.lload 7, 2)) ∧ (decode cX12_tellsBy 22 = .ok (.lstore 5, 2)) ∧ (decode cX12_tellsBy 24 = .ok (.lload 9, 2)) ∧ (decode cX12_tellsBy 26 = .ok (.lstore 7, 2)) ∧ (decode cX12_tellsBy 28 = .ok (.goto (-22), 3)) ∧ (decode cX12_tellsBy 31 = .ok (.aload_n 0, 1)) ∧ (decode cX12_tellsBy 32 = .ok (.lload_n 1, 1)) ∧ (decode cX12_tellsBy 33 = .ok (.lload 5, 2)) ∧ (decode cX12_tellsBy 35 = .ok (.ldiv, 1)) ∧ (decode cX12_tellsBy 36 = .ok (.putfield 120, 3)) ∧ (decode cX12_tellsBy 39 = .ok (.aload_n 0, 1)) ∧ (decode cX12_tellsBy 40 = .ok (.lload_n 3, 1)) := by decide +kernel
theorem dX12_tellsBy_20 : decode cX12_tellsBy 20 = .ok (.lload 7, 2) := dGR_28_c_870.1
theorem dX12_tellsBy_22 : decode cX12_tellsBy 22 = .ok (.lstore 5, 2) := dGR_28_c_870.2.1
theorem dX12_tellsBy_24 : decode cX12_tellsBy 24 = .ok (.lload 9, 2) := dGR_28_c_870.2.2.1
theorem dX12_tellsBy_26 : decode cX12_tellsBy 26 = .ok (.lstore 7, 2) := dGR_28_c_870.2.2.2.1
theorem dX12_tellsBy_28 : decode cX12_tellsBy 28 = .ok (.goto (-22), 3) := dGR_28_c_870.2.2.2.2.1
theorem dX12_tellsBy_31 : decode cX12_tellsBy 31 = .ok (.aload_n 0, 1) := dGR_28_c_870.2.2.2.2.2.1
theorem dX12_tellsBy_32 : decode cX12_tellsBy 32 = .ok (.lload_n 1, 1) := dGR_28_c_870.2.2.2.2.2.2.1
theorem dX12_tellsBy_33 : decode cX12_tellsBy 33 = .ok (.lload 5, 2) := dGR_28_c_870.2.2.2.2.2.2.2.1
theorem dX12_tellsBy_35 : decode cX12_tellsBy 35 = .ok (.ldiv, 1) := dGR_28_c_870.2.2.2.2.2.2.2.2.1
theorem dX12_tellsBy_36 : decode cX12_tellsBy 36 = .ok (.putfield 120, 3) := dGR_28_c_870.2.2.2.2.2.2.2.2.2.1
theorem dX12_tellsBy_39 : decode cX12_tellsBy 39 = .ok (.aload_n 0, 1) := dGR_28_c_870.2.2.2.2.2.2.2.2.2.2.1
theorem dX12_tellsBy_40 : decode cX12_tellsBy 40 = .ok (.lload_n 3, 1) := dGR_28_c_870.2.2.2.2.2.2.2.2.2.2.2
set_option maxRecDepth 100000 in
theorem dGR_28_c_871 : (decode cX12_tellsBy 41 = .ok (.lload 5, 2)) ∧ (decode cX12_tellsBy 43 = .ok (.ldiv, 1)) ∧ (decode cX12_tellsBy 44 = .ok (.putfield 17, 3)) ∧ (decode cX12_tellsBy 47 = .ok (.aload_n 0, 1)) ∧ (decode cX12_tellsBy 48 = .ok (.iconst 0, 1)) ∧ (decode cX12_tellsBy 49 = .ok (.invokevirtual 130, 3)) ∧ (decode cX12_tellsBy 52 = .ok (.ireturn, 1)) := by decide +kernel
theorem dX12_tellsBy_41 : decode cX12_tellsBy 41 = .ok (.lload 5, 2) := dGR_28_c_871.1
theorem dX12_tellsBy_43 : decode cX12_tellsBy 43 = .ok (.ldiv, 1) := dGR_28_c_871.2.1
theorem dX12_tellsBy_44 : decode cX12_tellsBy 44 = .ok (.putfield 17, 3) := dGR_28_c_871.2.2.1
theorem dX12_tellsBy_47 : decode cX12_tellsBy 47 = .ok (.aload_n 0, 1) := dGR_28_c_871.2.2.2.1
theorem dX12_tellsBy_48 : decode cX12_tellsBy 48 = .ok (.iconst 0, 1) := dGR_28_c_871.2.2.2.2.1
theorem dX12_tellsBy_49 : decode cX12_tellsBy 49 = .ok (.invokevirtual 130, 3) := dGR_28_c_871.2.2.2.2.2.1
theorem dX12_tellsBy_52 : decode cX12_tellsBy 52 = .ok (.ireturn, 1) := dGR_28_c_871.2.2.2.2.2.2
set_option maxRecDepth 100000 in
theorem dGR_28_c_872 : (decode cX12_wrongWord 0 = .ok (.aload_n 0, 1)) ∧ (decode cX12_wrongWord 1 = .ok (.getfield 24, 3)) ∧ (decode cX12_wrongWord 4 = .ok (.iload_n 1, 1)) ∧ (decode cX12_wrongWord 5 = .ok (.iaload, 1)) ∧ (decode cX12_wrongWord 6 = .ok (.iconst (-1), 1)) ∧ (decode cX12_wrongWord 7 = .ok (.if_icmp .ne 5, 3)) ∧ (decode cX12_wrongWord 10 = .ok (.iconst 2, 1)) ∧ (decode cX12_wrongWord 11 = .ok (.ireturn, 1)) ∧ (decode cX12_wrongWord 12 = .ok (.aload_n 0, 1)) ∧ (decode cX12_wrongWord 13 = .ok (.getfield 24, 3)) ∧ (decode cX12_wrongWord 16 = .ok (.iload_n 1, 1)) ∧ (decode cX12_wrongWord 17 = .ok (.iaload, 1)) := by decide +kernel
theorem dX12_wrongWord_0 : decode cX12_wrongWord 0 = .ok (.aload_n 0, 1) := dGR_28_c_872.1
theorem dX12_wrongWord_1 : decode cX12_wrongWord 1 = .ok (.getfield 24, 3) := dGR_28_c_872.2.1
theorem dX12_wrongWord_4 : decode cX12_wrongWord 4 = .ok (.iload_n 1, 1) := dGR_28_c_872.2.2.1
theorem dX12_wrongWord_5 : decode cX12_wrongWord 5 = .ok (.iaload, 1) := dGR_28_c_872.2.2.2.1
theorem dX12_wrongWord_6 : decode cX12_wrongWord 6 = .ok (.iconst (-1), 1) := dGR_28_c_872.2.2.2.2.1
theorem dX12_wrongWord_7 : decode cX12_wrongWord 7 = .ok (.if_icmp .ne 5, 3) := dGR_28_c_872.2.2.2.2.2.1
theorem dX12_wrongWord_10 : decode cX12_wrongWord 10 = .ok (.iconst 2, 1) := dGR_28_c_872.2.2.2.2.2.2.1
theorem dX12_wrongWord_11 : decode cX12_wrongWord 11 = .ok (.ireturn, 1) := dGR_28_c_872.2.2.2.2.2.2.2.1
theorem dX12_wrongWord_12 : decode cX12_wrongWord 12 = .ok (.aload_n 0, 1) := dGR_28_c_872.2.2.2.2.2.2.2.2.1
theorem dX12_wrongWord_13 : decode cX12_wrongWord 13 = .ok (.getfield 24, 3) := dGR_28_c_872.2.2.2.2.2.2.2.2.2.1
theorem dX12_wrongWord_16 : decode cX12_wrongWord 16 = .ok (.iload_n 1, 1) := dGR_28_c_872.2.2.2.2.2.2.2.2.2.2.1
theorem dX12_wrongWord_17 : decode cX12_wrongWord 17 = .ok (.iaload, 1) := dGR_28_c_872.2.2.2.2.2.2.2.2.2.2.2
set_option maxRecDepth 100000 in
theorem dGR_28_c_873 : (decode cX12_wrongWord 18 = .ok (.iload_n 2, 1)) ∧ (decode cX12_wrongWord 19 = .ok (.if_icmp .ge 5, 3)) ∧ (decode cX12_wrongWord 22 = .ok (.iconst 3, 1)) ∧ (decode cX12_wrongWord 23 = .ok (.ireturn, 1)) ∧ (decode cX12_wrongWord 24 = .ok (.iconst 0, 1)) ∧ (decode cX12_wrongWord 25 = .ok (.istore_n 3, 1)) ∧ (decode cX12_wrongWord 26 = .ok (.iload_n 3, 1)) ∧ (decode cX12_wrongWord 27 = .ok (.iload_n 2, 1)) ∧ (decode cX12_wrongWord 28 = .ok (.if_icmp .ge 36, 3)) ∧ (decode cX12_wrongWord 31 = .ok (.aload_n 0, 1)) ∧ (decode cX12_wrongWord 32 = .ok (.getfield 27, 3)) ∧ (decode cX12_wrongWord 35 = .ok (.bipush 60, 2)) := by decide +kernel
theorem dX12_wrongWord_18 : decode cX12_wrongWord 18 = .ok (.iload_n 2, 1) := dGR_28_c_873.1
theorem dX12_wrongWord_19 : decode cX12_wrongWord 19 = .ok (.if_icmp .ge 5, 3) := dGR_28_c_873.2.1
theorem dX12_wrongWord_22 : decode cX12_wrongWord 22 = .ok (.iconst 3, 1) := dGR_28_c_873.2.2.1
theorem dX12_wrongWord_23 : decode cX12_wrongWord 23 = .ok (.ireturn, 1) := dGR_28_c_873.2.2.2.1
theorem dX12_wrongWord_24 : decode cX12_wrongWord 24 = .ok (.iconst 0, 1) := dGR_28_c_873.2.2.2.2.1
theorem dX12_wrongWord_25 : decode cX12_wrongWord 25 = .ok (.istore_n 3, 1) := dGR_28_c_873.2.2.2.2.2.1
theorem dX12_wrongWord_26 : decode cX12_wrongWord 26 = .ok (.iload_n 3, 1) := dGR_28_c_873.2.2.2.2.2.2.1
theorem dX12_wrongWord_27 : decode cX12_wrongWord 27 = .ok (.iload_n 2, 1) := dGR_28_c_873.2.2.2.2.2.2.2.1
theorem dX12_wrongWord_28 : decode cX12_wrongWord 28 = .ok (.if_icmp .ge 36, 3) := dGR_28_c_873.2.2.2.2.2.2.2.2.1
theorem dX12_wrongWord_31 : decode cX12_wrongWord 31 = .ok (.aload_n 0, 1) := dGR_28_c_873.2.2.2.2.2.2.2.2.2.1
theorem dX12_wrongWord_32 : decode cX12_wrongWord 32 = .ok (.getfield 27, 3) := dGR_28_c_873.2.2.2.2.2.2.2.2.2.2.1
theorem dX12_wrongWord_35 : decode cX12_wrongWord 35 = .ok (.bipush 60, 2) := dGR_28_c_873.2.2.2.2.2.2.2.2.2.2.2
set_option maxRecDepth 100000 in
theorem dGR_28_c_874 : (decode cX12_wrongWord 37 = .ok (.iload_n 1, 1)) ∧ (decode cX12_wrongWord 38 = .ok (.imul, 1)) ∧ (decode cX12_wrongWord 39 = .ok (.iload_n 3, 1)) ∧ (decode cX12_wrongWord 40 = .ok (.iadd, 1)) ∧ (decode cX12_wrongWord 41 = .ok (.laload, 1)) ∧ (decode cX12_wrongWord 42 = .ok (.lconst 0, 1)) ∧ (decode cX12_wrongWord 43 = .ok (.aload_n 0, 1)) ∧ (decode cX12_wrongWord 44 = .ok (.invokevirtual 285, 3)) ∧ (decode cX12_wrongWord 47 = .ok (.i2l, 1)) ∧ (decode cX12_wrongWord 48 = .ok (.lconst 1, 1)) ∧ (decode cX12_wrongWord 49 = .ok (.lsub, 1)) ∧ (decode cX12_wrongWord 50 = .ok (.invokestatic 338, 3)) := by decide +kernel
theorem dX12_wrongWord_37 : decode cX12_wrongWord 37 = .ok (.iload_n 1, 1) := dGR_28_c_874.1
theorem dX12_wrongWord_38 : decode cX12_wrongWord 38 = .ok (.imul, 1) := dGR_28_c_874.2.1
theorem dX12_wrongWord_39 : decode cX12_wrongWord 39 = .ok (.iload_n 3, 1) := dGR_28_c_874.2.2.1
theorem dX12_wrongWord_40 : decode cX12_wrongWord 40 = .ok (.iadd, 1) := dGR_28_c_874.2.2.2.1
theorem dX12_wrongWord_41 : decode cX12_wrongWord 41 = .ok (.laload, 1) := dGR_28_c_874.2.2.2.2.1
theorem dX12_wrongWord_42 : decode cX12_wrongWord 42 = .ok (.lconst 0, 1) := dGR_28_c_874.2.2.2.2.2.1
theorem dX12_wrongWord_43 : decode cX12_wrongWord 43 = .ok (.aload_n 0, 1) := dGR_28_c_874.2.2.2.2.2.2.1
theorem dX12_wrongWord_44 : decode cX12_wrongWord 44 = .ok (.invokevirtual 285, 3) := dGR_28_c_874.2.2.2.2.2.2.2.1
theorem dX12_wrongWord_47 : decode cX12_wrongWord 47 = .ok (.i2l, 1) := dGR_28_c_874.2.2.2.2.2.2.2.2.1
theorem dX12_wrongWord_48 : decode cX12_wrongWord 48 = .ok (.lconst 1, 1) := dGR_28_c_874.2.2.2.2.2.2.2.2.2.1
theorem dX12_wrongWord_49 : decode cX12_wrongWord 49 = .ok (.lsub, 1) := dGR_28_c_874.2.2.2.2.2.2.2.2.2.2.1
theorem dX12_wrongWord_50 : decode cX12_wrongWord 50 = .ok (.invokestatic 338, 3) := dGR_28_c_874.2.2.2.2.2.2.2.2.2.2.2
set_option maxRecDepth 100000 in
theorem dGR_28_c_875 : (decode cX12_wrongWord 53 = .ok (.ifCond .ne 5, 3)) ∧ (decode cX12_wrongWord 56 = .ok (.iconst 5, 1)) ∧ (decode cX12_wrongWord 57 = .ok (.ireturn, 1)) ∧ (decode cX12_wrongWord 58 = .ok (.iinc 3 1, 3)) ∧ (decode cX12_wrongWord 61 = .ok (.goto (-35), 3)) ∧ (decode cX12_wrongWord 64 = .ok (.iconst 0, 1)) ∧ (decode cX12_wrongWord 65 = .ok (.ireturn, 1)) := by decide +kernel
theorem dX12_wrongWord_53 : decode cX12_wrongWord 53 = .ok (.ifCond .ne 5, 3) := dGR_28_c_875.1
theorem dX12_wrongWord_56 : decode cX12_wrongWord 56 = .ok (.iconst 5, 1) := dGR_28_c_875.2.1
theorem dX12_wrongWord_57 : decode cX12_wrongWord 57 = .ok (.ireturn, 1) := dGR_28_c_875.2.2.1
theorem dX12_wrongWord_58 : decode cX12_wrongWord 58 = .ok (.iinc 3 1, 3) := dGR_28_c_875.2.2.2.1
theorem dX12_wrongWord_61 : decode cX12_wrongWord 61 = .ok (.goto (-35), 3) := dGR_28_c_875.2.2.2.2.1
theorem dX12_wrongWord_64 : decode cX12_wrongWord 64 = .ok (.iconst 0, 1) := dGR_28_c_875.2.2.2.2.2.1
theorem dX12_wrongWord_65 : decode cX12_wrongWord 65 = .ok (.ireturn, 1) := dGR_28_c_875.2.2.2.2.2.2
set_option maxHeartbeats 4000000 in
set_option maxRecDepth 100000 in
theorem c_letterAtE (G : KG) (l : Launch) (M : Mem) (a1 : Int) (a2 : Int) (hI_M : Inv true M) (hpre : -2147483648 ≤ a1 ∧ a1 ≤ 2147483647 ∧ -2147483648 ≤ a2 ∧ a2 ≤ 2147483647 ∧ 0 ≤ a1 ∧ a1 ≤ 3 ∧ 0 ≤ a2 ∧ a2 ≤ 59 ∧ 0 ≤ (M 168 (60 * a1 + a2)) ∧ (M 168 (60 * a1 + a2)) ≤ 5) : KC true G l yX12_letterAt cX12_letterAt 3 (some .int) (0, 0) [vR G 163, vI a1, vI a2] M (fun A => kQi true G A (fun (r : Int) (N : Mem) => M = N ∧ (r = (M 168 (60 * a1 + a2)) ∧ r ≥ 0 ∧ r ≤ 5))) := by
  refine kx_met (lo := [some (vR G 163), some (vI a1), some (vI a2)]) (by decide) (Nat.le_of_ble_eq_true rfl) rfl ?_
  intro X F hQ
  refine kx_aload_n 1 F 0 dX12_letterAt_0 rfl rfl rfl ?_
  refine kx_getr 4 F fl_X12_27 kd_163 rfl rfl (j := 7) rfl dX12_letterAt_1 (v := 168) (uq_168 (Inv.r hI_M kd_163 rfl 7 rfl rfl)) rfl ?_
  refine kx_bipush 6 F dX12_letterAt_4 (by decide) rfl ?_
  refine kx_iload_n 7 F 1 dX12_letterAt_6 rfl rfl rfl ?_
  refine kx_imul 8 F (v := 60 * a1) dX12_letterAt_7 (by omega) rfl ?_
  refine kx_iload_n 9 F 2 dX12_letterAt_8 rfl rfl rfl ?_
  refine kx_iadd 10 F (v := 60 * a1 + a2) dX12_letterAt_9 rfl rfl ?_
  refine kx_lald 11 F kd_168 rfl rfl (by omega) (by decide) dX12_letterAt_10 (v := (M 168 (60 * a1 + a2))) rfl rfl ?_
  have h_1 := Inv.g hI_M kd_168 rfl (60 * a1 + a2) (a := (-9223372036854775808)) (b := 9223372036854775807) rfl rfl
  refine kx_l2i 12 F dX12_letterAt_11 rfl ?_
  exact kx_iret F hQ ⟨rfl, (by omega)⟩ dX12_letterAt_12
set_option maxRecDepth 100000 in
theorem dGR_28_c_876 : (decode cX12_beginsWord 0 = .ok (.aload_n 0, 1)) ∧ (decode cX12_beginsWord 1 = .ok (.getfield 47, 3)) ∧ (decode cX12_beginsWord 4 = .ok (.bipush 21, 2)) ∧ (decode cX12_beginsWord 6 = .ok (.iload_n 2, 1)) ∧ (decode cX12_beginsWord 7 = .ok (.imul, 1)) ∧ (decode cX12_beginsWord 8 = .ok (.aload_n 0, 1)) ∧ (decode cX12_beginsWord 9 = .ok (.iload_n 1, 1)) ∧ (decode cX12_beginsWord 10 = .ok (.iconst 2, 1)) ∧ (decode cX12_beginsWord 11 = .ok (.invokevirtual 288, 3)) ∧ (decode cX12_beginsWord 14 = .ok (.iastore, 1)) ∧ (decode cX12_beginsWord 15 = .ok (.aload_n 0, 1)) ∧ (decode cX12_beginsWord 16 = .ok (.getfield 50, 3)) := by decide +kernel
theorem dX12_beginsWord_0 : decode cX12_beginsWord 0 = .ok (.aload_n 0, 1) := dGR_28_c_876.1
theorem dX12_beginsWord_1 : decode cX12_beginsWord 1 = .ok (.getfield 47, 3) := dGR_28_c_876.2.1
theorem dX12_beginsWord_4 : decode cX12_beginsWord 4 = .ok (.bipush 21, 2) := dGR_28_c_876.2.2.1
theorem dX12_beginsWord_6 : decode cX12_beginsWord 6 = .ok (.iload_n 2, 1) := dGR_28_c_876.2.2.2.1
theorem dX12_beginsWord_7 : decode cX12_beginsWord 7 = .ok (.imul, 1) := dGR_28_c_876.2.2.2.2.1
theorem dX12_beginsWord_8 : decode cX12_beginsWord 8 = .ok (.aload_n 0, 1) := dGR_28_c_876.2.2.2.2.2.1
theorem dX12_beginsWord_9 : decode cX12_beginsWord 9 = .ok (.iload_n 1, 1) := dGR_28_c_876.2.2.2.2.2.2.1
theorem dX12_beginsWord_10 : decode cX12_beginsWord 10 = .ok (.iconst 2, 1) := dGR_28_c_876.2.2.2.2.2.2.2.1
theorem dX12_beginsWord_11 : decode cX12_beginsWord 11 = .ok (.invokevirtual 288, 3) := dGR_28_c_876.2.2.2.2.2.2.2.2.1
theorem dX12_beginsWord_14 : decode cX12_beginsWord 14 = .ok (.iastore, 1) := dGR_28_c_876.2.2.2.2.2.2.2.2.2.1
theorem dX12_beginsWord_15 : decode cX12_beginsWord 15 = .ok (.aload_n 0, 1) := dGR_28_c_876.2.2.2.2.2.2.2.2.2.2.1
theorem dX12_beginsWord_16 : decode cX12_beginsWord 16 = .ok (.getfield 50, 3) := dGR_28_c_876.2.2.2.2.2.2.2.2.2.2.2
set_option maxRecDepth 100000 in
theorem dGR_28_c_877 : (decode cX12_beginsWord 19 = .ok (.bipush 21, 2)) ∧ (decode cX12_beginsWord 21 = .ok (.iload_n 2, 1)) ∧ (decode cX12_beginsWord 22 = .ok (.imul, 1)) ∧ (decode cX12_beginsWord 23 = .ok (.aload_n 0, 1)) ∧ (decode cX12_beginsWord 24 = .ok (.iload_n 1, 1)) ∧ (decode cX12_beginsWord 25 = .ok (.invokevirtual 329, 3)) ∧ (decode cX12_beginsWord 28 = .ok (.iastore, 1)) ∧ (decode cX12_beginsWord 29 = .ok (.aload_n 0, 1)) ∧ (decode cX12_beginsWord 30 = .ok (.getfield 53, 3)) ∧ (decode cX12_beginsWord 33 = .ok (.iconst 0, 1)) ∧ (decode cX12_beginsWord 34 = .ok (.iconst (-1), 1)) ∧ (decode cX12_beginsWord 35 = .ok (.iastore, 1)) := by decide +kernel
theorem dX12_beginsWord_19 : decode cX12_beginsWord 19 = .ok (.bipush 21, 2) := dGR_28_c_877.1
theorem dX12_beginsWord_21 : decode cX12_beginsWord 21 = .ok (.iload_n 2, 1) := dGR_28_c_877.2.1
theorem dX12_beginsWord_22 : decode cX12_beginsWord 22 = .ok (.imul, 1) := dGR_28_c_877.2.2.1
theorem dX12_beginsWord_23 : decode cX12_beginsWord 23 = .ok (.aload_n 0, 1) := dGR_28_c_877.2.2.2.1
theorem dX12_beginsWord_24 : decode cX12_beginsWord 24 = .ok (.iload_n 1, 1) := dGR_28_c_877.2.2.2.2.1
theorem dX12_beginsWord_25 : decode cX12_beginsWord 25 = .ok (.invokevirtual 329, 3) := dGR_28_c_877.2.2.2.2.2.1
theorem dX12_beginsWord_28 : decode cX12_beginsWord 28 = .ok (.iastore, 1) := dGR_28_c_877.2.2.2.2.2.2.1
theorem dX12_beginsWord_29 : decode cX12_beginsWord 29 = .ok (.aload_n 0, 1) := dGR_28_c_877.2.2.2.2.2.2.2.1
theorem dX12_beginsWord_30 : decode cX12_beginsWord 30 = .ok (.getfield 53, 3) := dGR_28_c_877.2.2.2.2.2.2.2.2.1
theorem dX12_beginsWord_33 : decode cX12_beginsWord 33 = .ok (.iconst 0, 1) := dGR_28_c_877.2.2.2.2.2.2.2.2.2.1
theorem dX12_beginsWord_34 : decode cX12_beginsWord 34 = .ok (.iconst (-1), 1) := dGR_28_c_877.2.2.2.2.2.2.2.2.2.2.1
theorem dX12_beginsWord_35 : decode cX12_beginsWord 35 = .ok (.iastore, 1) := dGR_28_c_877.2.2.2.2.2.2.2.2.2.2.2
theorem dX12_beginsWord_36 : decode cX12_beginsWord 36 = .ok (.return_, 1) := by decide +kernel
abbrev f_c_X12_beginsWord : List (Nat × Int) := [(73, -1), (74, -1), (75, -1)]
set_option maxHeartbeats 4000000 in
set_option maxRecDepth 100000 in
theorem c_X12_beginsWord (G : KG) (l : Launch) (M : Mem) (a1 : Int) (a2 : Int) (hI_M : Inv true M) (hpre : -2147483648 ≤ a1 ∧ a1 ≤ 2147483647 ∧ -2147483648 ≤ a2 ∧ a2 ≤ 2147483647 ∧ 0 ≤ a1 ∧ a1 ≤ 2 ∧ 0 ≤ a2 ∧ a2 ≤ 1) : KC true G l yX12_beginsWord cX12_beginsWord 3 none (3, 66) [vR G 163, vI a1, vI a2] M (fun A => kQv true G A (fun (N : Mem) => Inv true N ∧ Fr f_c_X12_beginsWord M N ∧ (WB N 0))) := by
  refine kx_met (lo := [some (vR G 163), some (vI a1), some (vI a2)]) (by decide) (Nat.le_of_ble_eq_true rfl) rfl ?_
  intro X F hQ
  have hF_M : Fr f_c_X12_beginsWord M M := Fr.rf _ _
  refine kx_aload_n 1 F 0 dX12_beginsWord_0 rfl rfl rfl ?_
  refine kx_getr 4 F fl_X12_47 kd_163 rfl rfl (j := 21) rfl dX12_beginsWord_1 (v := 172) (uq_172 (Inv.r hI_M kd_163 rfl 21 rfl rfl)) rfl ?_
  refine kx_bipush 6 F dX12_beginsWord_4 (by decide) rfl ?_
  refine kx_iload_n 7 F 2 dX12_beginsWord_6 rfl rfl rfl ?_
  refine kx_imul 8 F (v := 21 * a2) dX12_beginsWord_7 (by omega) rfl ?_
  refine kx_aload_n 9 F 0 dX12_beginsWord_8 rfl rfl rfl ?_
  refine kx_iload_n 10 F 1 dX12_beginsWord_9 rfl rfl rfl ?_
  refine kx_iconst 11 F dX12_beginsWord_10 rfl ?_
  refine kx_Vi 14 (ci := 0) F (As := [vI a1, vI 2]) (st := [vI (21 * a2), vR G 172]) vd_X12_288 (c_of2 G l M a1 2 hI_M (by omega)) kd_163 rfl rfl rfl ⟨by decide, by decide⟩ rfl rfl (Nat.le_of_ble_eq_true rfl) dX12_beginsWord_11 rfl ?_
  intro r_1 N_2 q_3
  obtain ⟨rfl, q_3c⟩ := q_3
  refine kx_iast 15 F kd_172 rfl rfl (by omega) (by decide) dX12_beginsWord_14 rfl ?_
  intro N_4 hM_N_4
  have hI_N_4 : Inv true N_4 := Inv.u hI_M hM_N_4 kd_172 (a := 0) (b := 7) rfl rfl rfl (by omega)
  have hF_N_4 : Fr f_c_X12_beginsWord M N_4 := Fr.u hF_M hM_N_4 kd_172 rfl
  refine kx_aload_n 16 F 0 dX12_beginsWord_15 rfl rfl rfl ?_
  refine kx_getr 19 F fl_X12_50 kd_163 rfl rfl (j := 22) rfl dX12_beginsWord_16 (v := 173) (uq_173 (Inv.r hI_N_4 kd_163 rfl 22 rfl rfl)) rfl ?_
  refine kx_bipush 21 F dX12_beginsWord_19 (by decide) rfl ?_
  refine kx_iload_n 22 F 2 dX12_beginsWord_21 rfl rfl rfl ?_
  refine kx_imul 23 F (v := 21 * a2) dX12_beginsWord_22 (by omega) rfl ?_
  refine kx_aload_n 24 F 0 dX12_beginsWord_23 rfl rfl rfl ?_
  refine kx_iload_n 25 F 1 dX12_beginsWord_24 rfl rfl rfl ?_
  refine kx_Vi 28 (ci := 0) F (As := [vI a1]) (st := [vI (21 * a2), vR G 173]) vd_X12_329 (c_X12_same G l N_4 a1 hI_N_4 (by omega)) kd_163 rfl rfl rfl ⟨by decide, by decide⟩ rfl rfl (Nat.le_of_ble_eq_true rfl) dX12_beginsWord_25 rfl ?_
  intro r_5 N_6 q_7
  obtain ⟨rfl, q_7c⟩ := q_7
  refine kx_iast 29 F kd_173 rfl rfl (by omega) (by decide) dX12_beginsWord_28 rfl ?_
  intro N_8 hM_N_8
  have hI_N_8 : Inv true N_8 := Inv.u hI_N_4 hM_N_8 kd_173 (a := 0) (b := 511) rfl rfl rfl (by omega)
  have hF_N_8 : Fr f_c_X12_beginsWord M N_8 := Fr.u hF_N_4 hM_N_8 kd_173 rfl
  refine kx_aload_n 30 F 0 dX12_beginsWord_29 rfl rfl rfl ?_
  refine kx_getr 33 F fl_X12_53 kd_163 rfl rfl (j := 23) rfl dX12_beginsWord_30 (v := 174) (uq_174 (Inv.r hI_N_8 kd_163 rfl 23 rfl rfl)) rfl ?_
  refine kx_iconst 34 F dX12_beginsWord_33 rfl ?_
  refine kx_iconst 35 F dX12_beginsWord_34 rfl ?_
  refine kx_iast 36 F kd_174 rfl rfl (by omega) (by decide) dX12_beginsWord_35 rfl ?_
  intro N_9 hM_N_9
  have hI_N_9 : Inv true N_9 := Inv.u hI_N_8 hM_N_9 kd_174 (a := (-1)) (b := 19) rfl rfl rfl (by omega)
  have hF_N_9 : Fr f_c_X12_beginsWord M N_9 := Fr.u hF_N_8 hM_N_9 kd_174 rfl
  have e_10 : (N_9 174 0) = -1 := by rw [hM_N_9, mu_s]
  exact kx_vret F hQ ⟨hI_N_9, hF_N_9, (WB.nil (by omega))⟩ dX12_beginsWord_36
set_option maxRecDepth 100000 in
theorem dGR_28_c_878 : (decode cX12_reads 0 = .ok (.bipush 21, 2)) ∧ (decode cX12_reads 2 = .ok (.iload_n 2, 1)) ∧ (decode cX12_reads 3 = .ok (.imul, 1)) ∧ (decode cX12_reads 4 = .ok (.iload_n 3, 1)) ∧ (decode cX12_reads 5 = .ok (.iadd, 1)) ∧ (decode cX12_reads 6 = .ok (.istore 5, 2)) ∧ (decode cX12_reads 8 = .ok (.aload_n 0, 1)) ∧ (decode cX12_reads 9 = .ok (.iload 4, 2)) ∧ (decode cX12_reads 11 = .ok (.invokevirtual 297, 3)) ∧ (decode cX12_reads 14 = .ok (.istore 6, 2)) ∧ (decode cX12_reads 16 = .ok (.aload_n 0, 1)) ∧ (decode cX12_reads 17 = .ok (.getfield 53, 3)) := by decide +kernel
theorem dX12_reads_0 : decode cX12_reads 0 = .ok (.bipush 21, 2) := dGR_28_c_878.1
theorem dX12_reads_2 : decode cX12_reads 2 = .ok (.iload_n 2, 1) := dGR_28_c_878.2.1
theorem dX12_reads_3 : decode cX12_reads 3 = .ok (.imul, 1) := dGR_28_c_878.2.2.1
theorem dX12_reads_4 : decode cX12_reads 4 = .ok (.iload_n 3, 1) := dGR_28_c_878.2.2.2.1
theorem dX12_reads_5 : decode cX12_reads 5 = .ok (.iadd, 1) := dGR_28_c_878.2.2.2.2.1
theorem dX12_reads_6 : decode cX12_reads 6 = .ok (.istore 5, 2) := dGR_28_c_878.2.2.2.2.2.1
theorem dX12_reads_8 : decode cX12_reads 8 = .ok (.aload_n 0, 1) := dGR_28_c_878.2.2.2.2.2.2.1
theorem dX12_reads_9 : decode cX12_reads 9 = .ok (.iload 4, 2) := dGR_28_c_878.2.2.2.2.2.2.2.1
theorem dX12_reads_11 : decode cX12_reads 11 = .ok (.invokevirtual 297, 3) := dGR_28_c_878.2.2.2.2.2.2.2.2.1
theorem dX12_reads_14 : decode cX12_reads 14 = .ok (.istore 6, 2) := dGR_28_c_878.2.2.2.2.2.2.2.2.2.1
theorem dX12_reads_16 : decode cX12_reads 16 = .ok (.aload_n 0, 1) := dGR_28_c_878.2.2.2.2.2.2.2.2.2.2.1
theorem dX12_reads_17 : decode cX12_reads 17 = .ok (.getfield 53, 3) := dGR_28_c_878.2.2.2.2.2.2.2.2.2.2.2
set_option maxRecDepth 100000 in
theorem dGR_28_c_879 : (decode cX12_reads 20 = .ok (.iload_n 3, 1)) ∧ (decode cX12_reads 21 = .ok (.iaload, 1)) ∧ (decode cX12_reads 22 = .ok (.istore 7, 2)) ∧ (decode cX12_reads 24 = .ok (.aload_n 0, 1)) ∧ (decode cX12_reads 25 = .ok (.getfield 56, 3)) ∧ (decode cX12_reads 28 = .ok (.iload_n 3, 1)) ∧ (decode cX12_reads 29 = .ok (.iload 4, 2)) ∧ (decode cX12_reads 31 = .ok (.iastore, 1)) ∧ (decode cX12_reads 32 = .ok (.aload_n 0, 1)) ∧ (decode cX12_reads 33 = .ok (.getfield 53, 3)) ∧ (decode cX12_reads 36 = .ok (.iload_n 3, 1)) ∧ (decode cX12_reads 37 = .ok (.iconst 1, 1)) := by decide +kernel
theorem dX12_reads_20 : decode cX12_reads 20 = .ok (.iload_n 3, 1) := dGR_28_c_879.1
theorem dX12_reads_21 : decode cX12_reads 21 = .ok (.iaload, 1) := dGR_28_c_879.2.1
theorem dX12_reads_22 : decode cX12_reads 22 = .ok (.istore 7, 2) := dGR_28_c_879.2.2.1
theorem dX12_reads_24 : decode cX12_reads 24 = .ok (.aload_n 0, 1) := dGR_28_c_879.2.2.2.1
theorem dX12_reads_25 : decode cX12_reads 25 = .ok (.getfield 56, 3) := dGR_28_c_879.2.2.2.2.1
theorem dX12_reads_28 : decode cX12_reads 28 = .ok (.iload_n 3, 1) := dGR_28_c_879.2.2.2.2.2.1
theorem dX12_reads_29 : decode cX12_reads 29 = .ok (.iload 4, 2) := dGR_28_c_879.2.2.2.2.2.2.1
theorem dX12_reads_31 : decode cX12_reads 31 = .ok (.iastore, 1) := dGR_28_c_879.2.2.2.2.2.2.2.1
theorem dX12_reads_32 : decode cX12_reads 32 = .ok (.aload_n 0, 1) := dGR_28_c_879.2.2.2.2.2.2.2.2.1
theorem dX12_reads_33 : decode cX12_reads 33 = .ok (.getfield 53, 3) := dGR_28_c_879.2.2.2.2.2.2.2.2.2.1
theorem dX12_reads_36 : decode cX12_reads 36 = .ok (.iload_n 3, 1) := dGR_28_c_879.2.2.2.2.2.2.2.2.2.2.1
theorem dX12_reads_37 : decode cX12_reads 37 = .ok (.iconst 1, 1) := dGR_28_c_879.2.2.2.2.2.2.2.2.2.2.2
set_option maxRecDepth 100000 in
theorem dGR_28_c_880 : (decode cX12_reads 38 = .ok (.iadd, 1)) ∧ (decode cX12_reads 39 = .ok (.iload 6, 2)) ∧ (decode cX12_reads 41 = .ok (.ifCond .ne 7, 3)) ∧ (decode cX12_reads 44 = .ok (.iload_n 3, 1)) ∧ (decode cX12_reads 45 = .ok (.goto 27, 3)) ∧ (decode cX12_reads 48 = .ok (.iload 6, 2)) ∧ (decode cX12_reads 50 = .ok (.iconst 1, 1)) ∧ (decode cX12_reads 51 = .ok (.if_icmp .ne 19, 3)) ∧ (decode cX12_reads 54 = .ok (.iload 7, 2)) ∧ (decode cX12_reads 56 = .ok (.iconst (-1), 1)) ∧ (decode cX12_reads 57 = .ok (.if_icmp .eq 13, 3)) ∧ (decode cX12_reads 60 = .ok (.aload_n 0, 1)) := by decide +kernel
theorem dX12_reads_38 : decode cX12_reads 38 = .ok (.iadd, 1) := dGR_28_c_880.1
theorem dX12_reads_39 : decode cX12_reads 39 = .ok (.iload 6, 2) := dGR_28_c_880.2.1
theorem dX12_reads_41 : decode cX12_reads 41 = .ok (.ifCond .ne 7, 3) := dGR_28_c_880.2.2.1
theorem dX12_reads_44 : decode cX12_reads 44 = .ok (.iload_n 3, 1) := dGR_28_c_880.2.2.2.1
theorem dX12_reads_45 : decode cX12_reads 45 = .ok (.goto 27, 3) := dGR_28_c_880.2.2.2.2.1
theorem dX12_reads_48 : decode cX12_reads 48 = .ok (.iload 6, 2) := dGR_28_c_880.2.2.2.2.2.1
theorem dX12_reads_50 : decode cX12_reads 50 = .ok (.iconst 1, 1) := dGR_28_c_880.2.2.2.2.2.2.1
theorem dX12_reads_51 : decode cX12_reads 51 = .ok (.if_icmp .ne 19, 3) := dGR_28_c_880.2.2.2.2.2.2.2.1
theorem dX12_reads_54 : decode cX12_reads 54 = .ok (.iload 7, 2) := dGR_28_c_880.2.2.2.2.2.2.2.2.1
theorem dX12_reads_56 : decode cX12_reads 56 = .ok (.iconst (-1), 1) := dGR_28_c_880.2.2.2.2.2.2.2.2.2.1
theorem dX12_reads_57 : decode cX12_reads 57 = .ok (.if_icmp .eq 13, 3) := dGR_28_c_880.2.2.2.2.2.2.2.2.2.2.1
theorem dX12_reads_60 : decode cX12_reads 60 = .ok (.aload_n 0, 1) := dGR_28_c_880.2.2.2.2.2.2.2.2.2.2.2
set_option maxRecDepth 100000 in
theorem dGR_28_c_881 : (decode cX12_reads 61 = .ok (.getfield 53, 3)) ∧ (decode cX12_reads 64 = .ok (.iload 7, 2)) ∧ (decode cX12_reads 66 = .ok (.iaload, 1)) ∧ (decode cX12_reads 67 = .ok (.goto 5, 3)) ∧ (decode cX12_reads 70 = .ok (.iload 7, 2)) ∧ (decode cX12_reads 72 = .ok (.iastore, 1)) ∧ (decode cX12_reads 73 = .ok (.iload 6, 2)) ∧ (decode cX12_reads 75 = .ok (.ifCond .ne 46, 3)) ∧ (decode cX12_reads 78 = .ok (.aload_n 0, 1)) ∧ (decode cX12_reads 79 = .ok (.getfield 47, 3)) ∧ (decode cX12_reads 82 = .ok (.iload 5, 2)) ∧ (decode cX12_reads 84 = .ok (.iconst 1, 1)) := by decide +kernel
theorem dX12_reads_61 : decode cX12_reads 61 = .ok (.getfield 53, 3) := dGR_28_c_881.1
theorem dX12_reads_64 : decode cX12_reads 64 = .ok (.iload 7, 2) := dGR_28_c_881.2.1
theorem dX12_reads_66 : decode cX12_reads 66 = .ok (.iaload, 1) := dGR_28_c_881.2.2.1
theorem dX12_reads_67 : decode cX12_reads 67 = .ok (.goto 5, 3) := dGR_28_c_881.2.2.2.1
theorem dX12_reads_70 : decode cX12_reads 70 = .ok (.iload 7, 2) := dGR_28_c_881.2.2.2.2.1
theorem dX12_reads_72 : decode cX12_reads 72 = .ok (.iastore, 1) := dGR_28_c_881.2.2.2.2.2.1
theorem dX12_reads_73 : decode cX12_reads 73 = .ok (.iload 6, 2) := dGR_28_c_881.2.2.2.2.2.2.1
theorem dX12_reads_75 : decode cX12_reads 75 = .ok (.ifCond .ne 46, 3) := dGR_28_c_881.2.2.2.2.2.2.2.1
theorem dX12_reads_78 : decode cX12_reads 78 = .ok (.aload_n 0, 1) := dGR_28_c_881.2.2.2.2.2.2.2.2.1
theorem dX12_reads_79 : decode cX12_reads 79 = .ok (.getfield 47, 3) := dGR_28_c_881.2.2.2.2.2.2.2.2.2.1
theorem dX12_reads_82 : decode cX12_reads 82 = .ok (.iload 5, 2) := dGR_28_c_881.2.2.2.2.2.2.2.2.2.2.1
theorem dX12_reads_84 : decode cX12_reads 84 = .ok (.iconst 1, 1) := dGR_28_c_881.2.2.2.2.2.2.2.2.2.2.2
set_option maxRecDepth 100000 in
theorem dGR_28_c_882 : (decode cX12_reads 85 = .ok (.iadd, 1)) ∧ (decode cX12_reads 86 = .ok (.aload_n 0, 1)) ∧ (decode cX12_reads 87 = .ok (.getfield 47, 3)) ∧ (decode cX12_reads 90 = .ok (.iload 5, 2)) ∧ (decode cX12_reads 92 = .ok (.iaload, 1)) ∧ (decode cX12_reads 93 = .ok (.aload_n 0, 1)) ∧ (decode cX12_reads 94 = .ok (.iload_n 1, 1)) ∧ (decode cX12_reads 95 = .ok (.iload 4, 2)) ∧ (decode cX12_reads 97 = .ok (.bipush 7, 2)) ∧ (decode cX12_reads 99 = .ok (.invokevirtual 323, 3)) ∧ (decode cX12_reads 102 = .ok (.invokestatic 332, 3)) ∧ (decode cX12_reads 105 = .ok (.iastore, 1)) := by decide +kernel
theorem dX12_reads_85 : decode cX12_reads 85 = .ok (.iadd, 1) := dGR_28_c_882.1
theorem dX12_reads_86 : decode cX12_reads 86 = .ok (.aload_n 0, 1) := dGR_28_c_882.2.1
theorem dX12_reads_87 : decode cX12_reads 87 = .ok (.getfield 47, 3) := dGR_28_c_882.2.2.1
theorem dX12_reads_90 : decode cX12_reads 90 = .ok (.iload 5, 2) := dGR_28_c_882.2.2.2.1
theorem dX12_reads_92 : decode cX12_reads 92 = .ok (.iaload, 1) := dGR_28_c_882.2.2.2.2.1
theorem dX12_reads_93 : decode cX12_reads 93 = .ok (.aload_n 0, 1) := dGR_28_c_882.2.2.2.2.2.1
theorem dX12_reads_94 : decode cX12_reads 94 = .ok (.iload_n 1, 1) := dGR_28_c_882.2.2.2.2.2.2.1
theorem dX12_reads_95 : decode cX12_reads 95 = .ok (.iload 4, 2) := dGR_28_c_882.2.2.2.2.2.2.2.1
theorem dX12_reads_97 : decode cX12_reads 97 = .ok (.bipush 7, 2) := dGR_28_c_882.2.2.2.2.2.2.2.2.1
theorem dX12_reads_99 : decode cX12_reads 99 = .ok (.invokevirtual 323, 3) := dGR_28_c_882.2.2.2.2.2.2.2.2.2.1
theorem dX12_reads_102 : decode cX12_reads 102 = .ok (.invokestatic 332, 3) := dGR_28_c_882.2.2.2.2.2.2.2.2.2.2.1
theorem dX12_reads_105 : decode cX12_reads 105 = .ok (.iastore, 1) := dGR_28_c_882.2.2.2.2.2.2.2.2.2.2.2
set_option maxRecDepth 100000 in
theorem dGR_28_c_883 : (decode cX12_reads 106 = .ok (.aload_n 0, 1)) ∧ (decode cX12_reads 107 = .ok (.getfield 50, 3)) ∧ (decode cX12_reads 110 = .ok (.iload 5, 2)) ∧ (decode cX12_reads 112 = .ok (.iconst 1, 1)) ∧ (decode cX12_reads 113 = .ok (.iadd, 1)) ∧ (decode cX12_reads 114 = .ok (.aload_n 0, 1)) ∧ (decode cX12_reads 115 = .ok (.iload_n 1, 1)) ∧ (decode cX12_reads 116 = .ok (.invokevirtual 329, 3)) ∧ (decode cX12_reads 119 = .ok (.iastore, 1)) ∧ (decode cX12_reads 120 = .ok (.return_, 1)) ∧ (decode cX12_reads 121 = .ok (.iload 6, 2)) ∧ (decode cX12_reads 123 = .ok (.iconst 1, 1)) := by decide +kernel
theorem dX12_reads_106 : decode cX12_reads 106 = .ok (.aload_n 0, 1) := dGR_28_c_883.1
theorem dX12_reads_107 : decode cX12_reads 107 = .ok (.getfield 50, 3) := dGR_28_c_883.2.1
theorem dX12_reads_110 : decode cX12_reads 110 = .ok (.iload 5, 2) := dGR_28_c_883.2.2.1
theorem dX12_reads_112 : decode cX12_reads 112 = .ok (.iconst 1, 1) := dGR_28_c_883.2.2.2.1
theorem dX12_reads_113 : decode cX12_reads 113 = .ok (.iadd, 1) := dGR_28_c_883.2.2.2.2.1
theorem dX12_reads_114 : decode cX12_reads 114 = .ok (.aload_n 0, 1) := dGR_28_c_883.2.2.2.2.2.1
theorem dX12_reads_115 : decode cX12_reads 115 = .ok (.iload_n 1, 1) := dGR_28_c_883.2.2.2.2.2.2.1
theorem dX12_reads_116 : decode cX12_reads 116 = .ok (.invokevirtual 329, 3) := dGR_28_c_883.2.2.2.2.2.2.2.1
theorem dX12_reads_119 : decode cX12_reads 119 = .ok (.iastore, 1) := dGR_28_c_883.2.2.2.2.2.2.2.2.1
theorem dX12_reads_120 : decode cX12_reads 120 = .ok (.return_, 1) := dGR_28_c_883.2.2.2.2.2.2.2.2.2.1
theorem dX12_reads_121 : decode cX12_reads 121 = .ok (.iload 6, 2) := dGR_28_c_883.2.2.2.2.2.2.2.2.2.2.1
theorem dX12_reads_123 : decode cX12_reads 123 = .ok (.iconst 1, 1) := dGR_28_c_883.2.2.2.2.2.2.2.2.2.2.2
set_option maxRecDepth 100000 in
theorem dGR_28_c_884 : (decode cX12_reads 124 = .ok (.if_icmp .ne 85, 3)) ∧ (decode cX12_reads 127 = .ok (.iload 7, 2)) ∧ (decode cX12_reads 129 = .ok (.iconst (-1), 1)) ∧ (decode cX12_reads 130 = .ok (.if_icmp .eq 79, 3)) ∧ (decode cX12_reads 133 = .ok (.aload_n 0, 1)) ∧ (decode cX12_reads 134 = .ok (.iload_n 1, 1)) ∧ (decode cX12_reads 135 = .ok (.aload_n 0, 1)) ∧ (decode cX12_reads 136 = .ok (.getfield 50, 3)) ∧ (decode cX12_reads 139 = .ok (.iload 5, 2)) ∧ (decode cX12_reads 141 = .ok (.iaload, 1)) ∧ (decode cX12_reads 142 = .ok (.aload_n 0, 1)) ∧ (decode cX12_reads 143 = .ok (.getfield 56, 3)) := by decide +kernel
theorem dX12_reads_124 : decode cX12_reads 124 = .ok (.if_icmp .ne 85, 3) := dGR_28_c_884.1
theorem dX12_reads_127 : decode cX12_reads 127 = .ok (.iload 7, 2) := dGR_28_c_884.2.1
theorem dX12_reads_129 : decode cX12_reads 129 = .ok (.iconst (-1), 1) := dGR_28_c_884.2.2.1
theorem dX12_reads_130 : decode cX12_reads 130 = .ok (.if_icmp .eq 79, 3) := dGR_28_c_884.2.2.2.1
theorem dX12_reads_133 : decode cX12_reads 133 = .ok (.aload_n 0, 1) := dGR_28_c_884.2.2.2.2.1
theorem dX12_reads_134 : decode cX12_reads 134 = .ok (.iload_n 1, 1) := dGR_28_c_884.2.2.2.2.2.1
theorem dX12_reads_135 : decode cX12_reads 135 = .ok (.aload_n 0, 1) := dGR_28_c_884.2.2.2.2.2.2.1
theorem dX12_reads_136 : decode cX12_reads 136 = .ok (.getfield 50, 3) := dGR_28_c_884.2.2.2.2.2.2.2.1
theorem dX12_reads_139 : decode cX12_reads 139 = .ok (.iload 5, 2) := dGR_28_c_884.2.2.2.2.2.2.2.2.1
theorem dX12_reads_141 : decode cX12_reads 141 = .ok (.iaload, 1) := dGR_28_c_884.2.2.2.2.2.2.2.2.2.1
theorem dX12_reads_142 : decode cX12_reads 142 = .ok (.aload_n 0, 1) := dGR_28_c_884.2.2.2.2.2.2.2.2.2.2.1
theorem dX12_reads_143 : decode cX12_reads 143 = .ok (.getfield 56, 3) := dGR_28_c_884.2.2.2.2.2.2.2.2.2.2.2
set_option maxRecDepth 100000 in
theorem dGR_28_c_885 : (decode cX12_reads 146 = .ok (.iload 7, 2)) ∧ (decode cX12_reads 148 = .ok (.iaload, 1)) ∧ (decode cX12_reads 149 = .ok (.iload 4, 2)) ∧ (decode cX12_reads 151 = .ok (.invokevirtual 335, 3)) ∧ (decode cX12_reads 154 = .ok (.istore 8, 2)) ∧ (decode cX12_reads 156 = .ok (.aload_n 0, 1)) ∧ (decode cX12_reads 157 = .ok (.getfield 47, 3)) ∧ (decode cX12_reads 160 = .ok (.iload 5, 2)) ∧ (decode cX12_reads 162 = .ok (.iconst 1, 1)) ∧ (decode cX12_reads 163 = .ok (.iadd, 1)) ∧ (decode cX12_reads 164 = .ok (.aload_n 0, 1)) ∧ (decode cX12_reads 165 = .ok (.getfield 47, 3)) := by decide +kernel
theorem dX12_reads_146 : decode cX12_reads 146 = .ok (.iload 7, 2) := dGR_28_c_885.1
theorem dX12_reads_148 : decode cX12_reads 148 = .ok (.iaload, 1) := dGR_28_c_885.2.1
theorem dX12_reads_149 : decode cX12_reads 149 = .ok (.iload 4, 2) := dGR_28_c_885.2.2.1
theorem dX12_reads_151 : decode cX12_reads 151 = .ok (.invokevirtual 335, 3) := dGR_28_c_885.2.2.2.1
theorem dX12_reads_154 : decode cX12_reads 154 = .ok (.istore 8, 2) := dGR_28_c_885.2.2.2.2.1
theorem dX12_reads_156 : decode cX12_reads 156 = .ok (.aload_n 0, 1) := dGR_28_c_885.2.2.2.2.2.1
theorem dX12_reads_157 : decode cX12_reads 157 = .ok (.getfield 47, 3) := dGR_28_c_885.2.2.2.2.2.2.1
theorem dX12_reads_160 : decode cX12_reads 160 = .ok (.iload 5, 2) := dGR_28_c_885.2.2.2.2.2.2.2.1
theorem dX12_reads_162 : decode cX12_reads 162 = .ok (.iconst 1, 1) := dGR_28_c_885.2.2.2.2.2.2.2.2.1
theorem dX12_reads_163 : decode cX12_reads 163 = .ok (.iadd, 1) := dGR_28_c_885.2.2.2.2.2.2.2.2.2.1
theorem dX12_reads_164 : decode cX12_reads 164 = .ok (.aload_n 0, 1) := dGR_28_c_885.2.2.2.2.2.2.2.2.2.2.1
theorem dX12_reads_165 : decode cX12_reads 165 = .ok (.getfield 47, 3) := dGR_28_c_885.2.2.2.2.2.2.2.2.2.2.2
set_option maxRecDepth 100000 in
theorem dGR_28_c_886 : (decode cX12_reads 168 = .ok (.bipush 21, 2)) ∧ (decode cX12_reads 170 = .ok (.iload_n 2, 1)) ∧ (decode cX12_reads 171 = .ok (.imul, 1)) ∧ (decode cX12_reads 172 = .ok (.iload 7, 2)) ∧ (decode cX12_reads 174 = .ok (.iadd, 1)) ∧ (decode cX12_reads 175 = .ok (.iaload, 1)) ∧ (decode cX12_reads 176 = .ok (.iload 8, 2)) ∧ (decode cX12_reads 178 = .ok (.invokestatic 332, 3)) ∧ (decode cX12_reads 181 = .ok (.iastore, 1)) ∧ (decode cX12_reads 182 = .ok (.aload_n 0, 1)) ∧ (decode cX12_reads 183 = .ok (.getfield 50, 3)) ∧ (decode cX12_reads 186 = .ok (.iload 5, 2)) := by decide +kernel
theorem dX12_reads_168 : decode cX12_reads 168 = .ok (.bipush 21, 2) := dGR_28_c_886.1
theorem dX12_reads_170 : decode cX12_reads 170 = .ok (.iload_n 2, 1) := dGR_28_c_886.2.1
theorem dX12_reads_171 : decode cX12_reads 171 = .ok (.imul, 1) := dGR_28_c_886.2.2.1
theorem dX12_reads_172 : decode cX12_reads 172 = .ok (.iload 7, 2) := dGR_28_c_886.2.2.2.1
theorem dX12_reads_174 : decode cX12_reads 174 = .ok (.iadd, 1) := dGR_28_c_886.2.2.2.2.1
theorem dX12_reads_175 : decode cX12_reads 175 = .ok (.iaload, 1) := dGR_28_c_886.2.2.2.2.2.1
theorem dX12_reads_176 : decode cX12_reads 176 = .ok (.iload 8, 2) := dGR_28_c_886.2.2.2.2.2.2.1
theorem dX12_reads_178 : decode cX12_reads 178 = .ok (.invokestatic 332, 3) := dGR_28_c_886.2.2.2.2.2.2.2.1
theorem dX12_reads_181 : decode cX12_reads 181 = .ok (.iastore, 1) := dGR_28_c_886.2.2.2.2.2.2.2.2.1
theorem dX12_reads_182 : decode cX12_reads 182 = .ok (.aload_n 0, 1) := dGR_28_c_886.2.2.2.2.2.2.2.2.2.1
theorem dX12_reads_183 : decode cX12_reads 183 = .ok (.getfield 50, 3) := dGR_28_c_886.2.2.2.2.2.2.2.2.2.2.1
theorem dX12_reads_186 : decode cX12_reads 186 = .ok (.iload 5, 2) := dGR_28_c_886.2.2.2.2.2.2.2.2.2.2.2
set_option maxRecDepth 100000 in
theorem dGR_28_c_887 : (decode cX12_reads 188 = .ok (.iconst 1, 1)) ∧ (decode cX12_reads 189 = .ok (.iadd, 1)) ∧ (decode cX12_reads 190 = .ok (.aload_n 0, 1)) ∧ (decode cX12_reads 191 = .ok (.getfield 50, 3)) ∧ (decode cX12_reads 194 = .ok (.bipush 21, 2)) ∧ (decode cX12_reads 196 = .ok (.iload_n 2, 1)) ∧ (decode cX12_reads 197 = .ok (.imul, 1)) ∧ (decode cX12_reads 198 = .ok (.iload 7, 2)) ∧ (decode cX12_reads 200 = .ok (.iadd, 1)) ∧ (decode cX12_reads 201 = .ok (.iaload, 1)) ∧ (decode cX12_reads 202 = .ok (.iload 8, 2)) ∧ (decode cX12_reads 204 = .ok (.invokestatic 326, 3)) := by decide +kernel
theorem dX12_reads_188 : decode cX12_reads 188 = .ok (.iconst 1, 1) := dGR_28_c_887.1
theorem dX12_reads_189 : decode cX12_reads 189 = .ok (.iadd, 1) := dGR_28_c_887.2.1
theorem dX12_reads_190 : decode cX12_reads 190 = .ok (.aload_n 0, 1) := dGR_28_c_887.2.2.1
theorem dX12_reads_191 : decode cX12_reads 191 = .ok (.getfield 50, 3) := dGR_28_c_887.2.2.2.1
theorem dX12_reads_194 : decode cX12_reads 194 = .ok (.bipush 21, 2) := dGR_28_c_887.2.2.2.2.1
theorem dX12_reads_196 : decode cX12_reads 196 = .ok (.iload_n 2, 1) := dGR_28_c_887.2.2.2.2.2.1
theorem dX12_reads_197 : decode cX12_reads 197 = .ok (.imul, 1) := dGR_28_c_887.2.2.2.2.2.2.1
theorem dX12_reads_198 : decode cX12_reads 198 = .ok (.iload 7, 2) := dGR_28_c_887.2.2.2.2.2.2.2.1
theorem dX12_reads_200 : decode cX12_reads 200 = .ok (.iadd, 1) := dGR_28_c_887.2.2.2.2.2.2.2.2.1
theorem dX12_reads_201 : decode cX12_reads 201 = .ok (.iaload, 1) := dGR_28_c_887.2.2.2.2.2.2.2.2.2.1
theorem dX12_reads_202 : decode cX12_reads 202 = .ok (.iload 8, 2) := dGR_28_c_887.2.2.2.2.2.2.2.2.2.2.1
theorem dX12_reads_204 : decode cX12_reads 204 = .ok (.invokestatic 326, 3) := dGR_28_c_887.2.2.2.2.2.2.2.2.2.2.2
set_option maxRecDepth 100000 in
theorem dGR_28_c_888 : (decode cX12_reads 207 = .ok (.iastore, 1)) ∧ (decode cX12_reads 208 = .ok (.return_, 1)) ∧ (decode cX12_reads 209 = .ok (.aload_n 0, 1)) ∧ (decode cX12_reads 210 = .ok (.getfield 47, 3)) ∧ (decode cX12_reads 213 = .ok (.iload 5, 2)) ∧ (decode cX12_reads 215 = .ok (.iconst 1, 1)) ∧ (decode cX12_reads 216 = .ok (.iadd, 1)) ∧ (decode cX12_reads 217 = .ok (.aload_n 0, 1)) ∧ (decode cX12_reads 218 = .ok (.getfield 47, 3)) ∧ (decode cX12_reads 221 = .ok (.iload 5, 2)) ∧ (decode cX12_reads 223 = .ok (.iaload, 1)) ∧ (decode cX12_reads 224 = .ok (.aload_n 0, 1)) := by decide +kernel
theorem dX12_reads_207 : decode cX12_reads 207 = .ok (.iastore, 1) := dGR_28_c_888.1
theorem dX12_reads_208 : decode cX12_reads 208 = .ok (.return_, 1) := dGR_28_c_888.2.1
theorem dX12_reads_209 : decode cX12_reads 209 = .ok (.aload_n 0, 1) := dGR_28_c_888.2.2.1
theorem dX12_reads_210 : decode cX12_reads 210 = .ok (.getfield 47, 3) := dGR_28_c_888.2.2.2.1
theorem dX12_reads_213 : decode cX12_reads 213 = .ok (.iload 5, 2) := dGR_28_c_888.2.2.2.2.1
theorem dX12_reads_215 : decode cX12_reads 215 = .ok (.iconst 1, 1) := dGR_28_c_888.2.2.2.2.2.1
theorem dX12_reads_216 : decode cX12_reads 216 = .ok (.iadd, 1) := dGR_28_c_888.2.2.2.2.2.2.1
theorem dX12_reads_217 : decode cX12_reads 217 = .ok (.aload_n 0, 1) := dGR_28_c_888.2.2.2.2.2.2.2.1
theorem dX12_reads_218 : decode cX12_reads 218 = .ok (.getfield 47, 3) := dGR_28_c_888.2.2.2.2.2.2.2.2.1
theorem dX12_reads_221 : decode cX12_reads 221 = .ok (.iload 5, 2) := dGR_28_c_888.2.2.2.2.2.2.2.2.2.1
theorem dX12_reads_223 : decode cX12_reads 223 = .ok (.iaload, 1) := dGR_28_c_888.2.2.2.2.2.2.2.2.2.2.1
theorem dX12_reads_224 : decode cX12_reads 224 = .ok (.aload_n 0, 1) := dGR_28_c_888.2.2.2.2.2.2.2.2.2.2.2
set_option maxRecDepth 100000 in
theorem dGR_28_c_889 : (decode cX12_reads 225 = .ok (.iload_n 1, 1)) ∧ (decode cX12_reads 226 = .ok (.iload 4, 2)) ∧ (decode cX12_reads 228 = .ok (.bipush 8, 2)) ∧ (decode cX12_reads 230 = .ok (.invokevirtual 323, 3)) ∧ (decode cX12_reads 233 = .ok (.invokestatic 332, 3)) ∧ (decode cX12_reads 236 = .ok (.iastore, 1)) ∧ (decode cX12_reads 237 = .ok (.aload_n 0, 1)) ∧ (decode cX12_reads 238 = .ok (.getfield 50, 3)) ∧ (decode cX12_reads 241 = .ok (.iload 5, 2)) ∧ (decode cX12_reads 243 = .ok (.iconst 1, 1)) ∧ (decode cX12_reads 244 = .ok (.iadd, 1)) ∧ (decode cX12_reads 245 = .ok (.aload_n 0, 1)) := by decide +kernel
theorem dX12_reads_225 : decode cX12_reads 225 = .ok (.iload_n 1, 1) := dGR_28_c_889.1
theorem dX12_reads_226 : decode cX12_reads 226 = .ok (.iload 4, 2) := dGR_28_c_889.2.1
theorem dX12_reads_228 : decode cX12_reads 228 = .ok (.bipush 8, 2) := dGR_28_c_889.2.2.1
theorem dX12_reads_230 : decode cX12_reads 230 = .ok (.invokevirtual 323, 3) := dGR_28_c_889.2.2.2.1
theorem dX12_reads_233 : decode cX12_reads 233 = .ok (.invokestatic 332, 3) := dGR_28_c_889.2.2.2.2.1
theorem dX12_reads_236 : decode cX12_reads 236 = .ok (.iastore, 1) := dGR_28_c_889.2.2.2.2.2.1
theorem dX12_reads_237 : decode cX12_reads 237 = .ok (.aload_n 0, 1) := dGR_28_c_889.2.2.2.2.2.2.1
theorem dX12_reads_238 : decode cX12_reads 238 = .ok (.getfield 50, 3) := dGR_28_c_889.2.2.2.2.2.2.2.1
theorem dX12_reads_241 : decode cX12_reads 241 = .ok (.iload 5, 2) := dGR_28_c_889.2.2.2.2.2.2.2.2.1
theorem dX12_reads_243 : decode cX12_reads 243 = .ok (.iconst 1, 1) := dGR_28_c_889.2.2.2.2.2.2.2.2.2.1
theorem dX12_reads_244 : decode cX12_reads 244 = .ok (.iadd, 1) := dGR_28_c_889.2.2.2.2.2.2.2.2.2.2.1
theorem dX12_reads_245 : decode cX12_reads 245 = .ok (.aload_n 0, 1) := dGR_28_c_889.2.2.2.2.2.2.2.2.2.2.2
set_option maxRecDepth 100000 in
theorem dGR_28_c_890 : (decode cX12_reads 246 = .ok (.getfield 50, 3)) ∧ (decode cX12_reads 249 = .ok (.iload 5, 2)) ∧ (decode cX12_reads 251 = .ok (.iaload, 1)) ∧ (decode cX12_reads 252 = .ok (.aload_n 0, 1)) ∧ (decode cX12_reads 253 = .ok (.iload_n 1, 1)) ∧ (decode cX12_reads 254 = .ok (.iload 4, 2)) ∧ (decode cX12_reads 256 = .ok (.bipush 8, 2)) ∧ (decode cX12_reads 258 = .ok (.invokevirtual 323, 3)) ∧ (decode cX12_reads 261 = .ok (.invokestatic 326, 3)) ∧ (decode cX12_reads 264 = .ok (.iastore, 1)) ∧ (decode cX12_reads 265 = .ok (.return_, 1)) := by decide +kernel
theorem dX12_reads_246 : decode cX12_reads 246 = .ok (.getfield 50, 3) := dGR_28_c_890.1
theorem dX12_reads_249 : decode cX12_reads 249 = .ok (.iload 5, 2) := dGR_28_c_890.2.1
theorem dX12_reads_251 : decode cX12_reads 251 = .ok (.iaload, 1) := dGR_28_c_890.2.2.1
theorem dX12_reads_252 : decode cX12_reads 252 = .ok (.aload_n 0, 1) := dGR_28_c_890.2.2.2.1
theorem dX12_reads_253 : decode cX12_reads 253 = .ok (.iload_n 1, 1) := dGR_28_c_890.2.2.2.2.1
theorem dX12_reads_254 : decode cX12_reads 254 = .ok (.iload 4, 2) := dGR_28_c_890.2.2.2.2.2.1
theorem dX12_reads_256 : decode cX12_reads 256 = .ok (.bipush 8, 2) := dGR_28_c_890.2.2.2.2.2.2.1
theorem dX12_reads_258 : decode cX12_reads 258 = .ok (.invokevirtual 323, 3) := dGR_28_c_890.2.2.2.2.2.2.2.1
theorem dX12_reads_261 : decode cX12_reads 261 = .ok (.invokestatic 326, 3) := dGR_28_c_890.2.2.2.2.2.2.2.2.1
theorem dX12_reads_264 : decode cX12_reads 264 = .ok (.iastore, 1) := dGR_28_c_890.2.2.2.2.2.2.2.2.2.1
theorem dX12_reads_265 : decode cX12_reads 265 = .ok (.return_, 1) := dGR_28_c_890.2.2.2.2.2.2.2.2.2.2
abbrev f_c_X12_reads : List (Nat × Int) := [(73, -1), (74, -1), (75, -1), (76, -1)]
set_option maxHeartbeats 4000000 in
set_option maxRecDepth 100000 in
theorem c_X12_reads (G : KG) (l : Launch) (M : Mem) (a1 : Int) (a2 : Int) (a3 : Int) (a4 : Int) (hI_M : Inv true M) (hpre : -2147483648 ≤ a1 ∧ a1 ≤ 2147483647 ∧ -2147483648 ≤ a2 ∧ a2 ≤ 2147483647 ∧ -2147483648 ≤ a3 ∧ a3 ≤ 2147483647 ∧ -2147483648 ≤ a4 ∧ a4 ≤ 2147483647 ∧ 0 ≤ a1 ∧ a1 ≤ 2 ∧ 0 ≤ a2 ∧ a2 ≤ 1 ∧ 0 ≤ a3 ∧ a3 ≤ 19 ∧ 0 ≤ a4 ∧ a4 ≤ 5) (hW : WB M a3) : KC true G l yX12_reads cX12_reads 9 none (3, 75) [vR G 163, vI a1, vI a2, vI a3, vI a4] M (fun A => kQv true G A (fun (N : Mem) => Inv true N ∧ Fr f_c_X12_reads M N ∧ (WB N (a3 + 1)))) := by
  refine kx_met (lo := [some (vR G 163), some (vI a1), some (vI a2), some (vI a3), some (vI a4), none, none, none, none]) (by decide) (Nat.le_of_ble_eq_true rfl) rfl ?_
  intro X F hQ
  have hF_M : Fr f_c_X12_reads M M := Fr.rf _ _
  refine kx_bipush 2 F dX12_reads_0 (by decide) rfl ?_
  refine kx_iload_n 3 F 2 dX12_reads_2 rfl rfl rfl ?_
  refine kx_imul 4 F (v := 21 * a2) dX12_reads_3 (by omega) rfl ?_
  refine kx_iload_n 5 F 3 dX12_reads_4 rfl rfl rfl ?_
  refine kx_iadd 6 F (v := 21 * a2 + a3) dX12_reads_5 rfl rfl ?_
  refine kx_istore 8 F 5 (lo' := [some (vR G 163), some (vI a1), some (vI a2), some (vI a3), some (vI a4), some (vI (21 * a2 + a3)), none, none, none]) dX12_reads_6 (by decide) rfl rfl rfl ?_
  refine kx_aload_n 9 F 0 dX12_reads_8 rfl rfl rfl ?_
  refine kx_iload 11 F 4 dX12_reads_9 rfl rfl ?_
  refine kx_Vi 14 (ci := 0) F (As := [vI a4]) (st := []) vd_X12_297 (c_X12_sortNow G l M a4 hI_M (by omega)) kd_163 rfl rfl rfl ⟨by decide, by decide⟩ rfl rfl (Nat.le_of_ble_eq_true rfl) dX12_reads_11 rfl ?_
  intro r_1 N_2 q_3
  obtain ⟨rfl, q_3c⟩ := q_3
  refine kx_istore 16 F 6 (lo' := [some (vR G 163), some (vI a1), some (vI a2), some (vI a3), some (vI a4), some (vI (21 * a2 + a3)), some (vI r_1), none, none]) dX12_reads_14 (by decide) rfl rfl rfl ?_
  have h_4 := WB.bel hW a3 (by omega)
  refine kx_aload_n 17 F 0 dX12_reads_16 rfl rfl rfl ?_
  refine kx_getr 20 F fl_X12_53 kd_163 rfl rfl (j := 23) rfl dX12_reads_17 (v := 174) (uq_174 (Inv.r hI_M kd_163 rfl 23 rfl rfl)) rfl ?_
  refine kx_iload_n 21 F 3 dX12_reads_20 rfl rfl rfl ?_
  refine kx_iald 22 F kd_174 rfl rfl (by omega) (by decide) dX12_reads_21 (v := (M 174 a3)) rfl rfl ?_
  have h_5 := Inv.g hI_M kd_174 rfl a3 (a := (-1)) (b := 19) rfl rfl
  refine kx_istore 24 F 7 (lo' := [some (vR G 163), some (vI a1), some (vI a2), some (vI a3), some (vI a4), some (vI (21 * a2 + a3)), some (vI r_1), some (vI (M 174 a3)), none]) dX12_reads_22 (by decide) rfl rfl rfl ?_
  refine kx_aload_n 25 F 0 dX12_reads_24 rfl rfl rfl ?_
  refine kx_getr 28 F fl_X12_56 kd_163 rfl rfl (j := 24) rfl dX12_reads_25 (v := 175) (uq_175 (Inv.r hI_M kd_163 rfl 24 rfl rfl)) rfl ?_
  refine kx_iload_n 29 F 3 dX12_reads_28 rfl rfl rfl ?_
  refine kx_iload 31 F 4 dX12_reads_29 rfl rfl ?_
  refine kx_iast 32 F kd_175 rfl rfl (by omega) (by decide) dX12_reads_31 rfl ?_
  intro N_6 hM_N_6
  have hI_N_6 : Inv true N_6 := Inv.u hI_M hM_N_6 kd_175 (a := 0) (b := 19) rfl rfl rfl (by omega)
  have hF_N_6 : Fr f_c_X12_reads M N_6 := Fr.u hF_M hM_N_6 kd_175 rfl
  refine kx_aload_n 33 F 0 dX12_reads_32 rfl rfl rfl ?_
  refine kx_getr 36 F fl_X12_53 kd_163 rfl rfl (j := 23) rfl dX12_reads_33 (v := 174) (uq_174 (Inv.r hI_N_6 kd_163 rfl 23 rfl rfl)) rfl ?_
  refine kx_iload_n 37 F 3 dX12_reads_36 rfl rfl rfl ?_
  refine kx_iconst 38 F dX12_reads_37 rfl ?_
  refine kx_iadd 39 F (v := a3 + 1) dX12_reads_38 rfl rfl ?_
  refine kx_iload 41 F 6 dX12_reads_39 rfl rfl ?_
  have J_20 : ∀ (y0_19 : Int), (-1) ≤ y0_19 ∧ y0_19 ≤ 19 ∧ y0_19 ≤ a3 → KJ true G X N_6 72 [some (vR G 163), some (vI a1), some (vI a2), none, some (vI a4), some (vI (21 * a2 + a3)), some (vI r_1), some (vI (M 174 a3)), none] [vI y0_19, vI (a3 + 1), vR G 174] := by
    intro y0_19 h_21
    refine kx_iast 73 F kd_174 rfl rfl (by omega) (by decide) dX12_reads_72 rfl ?_
    intro N_22 hM_N_22
    have hI_N_22 : Inv true N_22 := Inv.u hI_N_6 hM_N_22 kd_174 (a := (-1)) (b := 19) rfl rfl rfl (by omega)
    have hF_N_22 : Fr f_c_X12_reads M N_22 := Fr.u hF_N_6 hM_N_22 kd_174 rfl
    refine kx_iload 75 F 6 dX12_reads_73 rfl rfl ?_
    refine kx_if_ne 78 F 121 dX12_reads_75 (by decide) rfl (by omega) (fun h_23 => ?_) (fun h_23 => ?_)
    · refine kx_iload 123 F 6 dX12_reads_121 rfl rfl ?_
      refine kx_iconst 124 F dX12_reads_123 rfl ?_
      have J_43 : KJ true G X N_22 209 [some (vR G 163), some (vI a1), none, none, some (vI a4), some (vI (21 * a2 + a3)), none, none, none] [] := by
        refine kx_aload_n 210 F 0 dX12_reads_209 rfl rfl rfl ?_
        refine kx_getr 213 F fl_X12_47 kd_163 rfl rfl (j := 21) rfl dX12_reads_210 (v := 172) (uq_172 (Inv.r hI_N_22 kd_163 rfl 21 rfl rfl)) rfl ?_
        refine kx_iload 215 F 5 dX12_reads_213 rfl rfl ?_
        refine kx_iconst 216 F dX12_reads_215 rfl ?_
        refine kx_iadd 217 F (v := 21 * a2 + a3 + 1) dX12_reads_216 rfl rfl ?_
        refine kx_aload_n 218 F 0 dX12_reads_217 rfl rfl rfl ?_
        refine kx_getr 221 F fl_X12_47 kd_163 rfl rfl (j := 21) rfl dX12_reads_218 (v := 172) (uq_172 (Inv.r hI_N_22 kd_163 rfl 21 rfl rfl)) rfl ?_
        refine kx_iload 223 F 5 dX12_reads_221 rfl rfl ?_
        refine kx_iald 224 F kd_172 rfl rfl (by omega) (by decide) dX12_reads_223 (v := (M 172 (21 * a2 + a3))) (by rw [hM_N_22, mu_k kd_172 kd_174 rfl, hM_N_6, mu_k kd_172 kd_175 rfl]) rfl ?_
        have h_45 := Inv.g hI_M kd_172 rfl (21 * a2 + a3) (a := 0) (b := 7) rfl rfl
        refine kx_aload_n 225 F 0 dX12_reads_224 rfl rfl rfl ?_
        refine kx_iload_n 226 F 1 dX12_reads_225 rfl rfl rfl ?_
        refine kx_iload 228 F 4 dX12_reads_226 rfl rfl ?_
        refine kx_bipush 230 F dX12_reads_228 (by decide) rfl ?_
        refine kx_Vi 233 (ci := 0) F (As := [vI a1, vI a4, vI 8]) (st := [vI (M 172 (21 * a2 + a3)), vI (21 * a2 + a3 + 1), vR G 172]) vd_X12_323 (c_X12_leads G l N_22 a1 a4 8 hI_N_22 (by omega)) kd_163 rfl rfl rfl ⟨by decide, by decide⟩ rfl rfl (Nat.le_of_ble_eq_true rfl) dX12_reads_230 rfl ?_
        intro r_46 N_47 q_48
        obtain ⟨rfl, q_48c⟩ := q_48
        refine kx_Si 236 F (As := [vI (M 172 (21 * a2 + a3)), vI r_46]) (st := [vI (21 * a2 + a3 + 1), vR G 172]) sd_X12_332 (c_X12_image G l N_22 (M 172 (21 * a2 + a3)) r_46 hI_N_22 (by omega)) ⟨by decide, by decide⟩ rfl rfl (Nat.le_of_ble_eq_true rfl) dX12_reads_233 rfl ?_
        intro r_49 N_50 q_51
        obtain ⟨rfl, q_51c⟩ := q_51
        refine kx_iast 237 F kd_172 rfl rfl (by omega) (by decide) dX12_reads_236 rfl ?_
        intro N_52 hM_N_52
        have hI_N_52 : Inv true N_52 := Inv.u hI_N_22 hM_N_52 kd_172 (a := 0) (b := 7) rfl rfl rfl (by omega)
        have hF_N_52 : Fr f_c_X12_reads M N_52 := Fr.u hF_N_22 hM_N_52 kd_172 rfl
        refine kx_aload_n 238 F 0 dX12_reads_237 rfl rfl rfl ?_
        refine kx_getr 241 F fl_X12_50 kd_163 rfl rfl (j := 22) rfl dX12_reads_238 (v := 173) (uq_173 (Inv.r hI_N_52 kd_163 rfl 22 rfl rfl)) rfl ?_
        refine kx_iload 243 F 5 dX12_reads_241 rfl rfl ?_
        refine kx_iconst 244 F dX12_reads_243 rfl ?_
        refine kx_iadd 245 F (v := 21 * a2 + a3 + 1) dX12_reads_244 rfl rfl ?_
        refine kx_aload_n 246 F 0 dX12_reads_245 rfl rfl rfl ?_
        refine kx_getr 249 F fl_X12_50 kd_163 rfl rfl (j := 22) rfl dX12_reads_246 (v := 173) (uq_173 (Inv.r hI_N_52 kd_163 rfl 22 rfl rfl)) rfl ?_
        refine kx_iload 251 F 5 dX12_reads_249 rfl rfl ?_
        refine kx_iald 252 F kd_173 rfl rfl (by omega) (by decide) dX12_reads_251 (v := (M 173 (21 * a2 + a3))) (by rw [hM_N_52, mu_k kd_173 kd_172 rfl, hM_N_22, mu_k kd_173 kd_174 rfl, hM_N_6, mu_k kd_173 kd_175 rfl]) rfl ?_
        have h_53 := Inv.g hI_M kd_173 rfl (21 * a2 + a3) (a := 0) (b := 511) rfl rfl
        refine kx_aload_n 253 F 0 dX12_reads_252 rfl rfl rfl ?_
        refine kx_iload_n 254 F 1 dX12_reads_253 rfl rfl rfl ?_
        refine kx_iload 256 F 4 dX12_reads_254 rfl rfl ?_
        refine kx_bipush 258 F dX12_reads_256 (by decide) rfl ?_
        refine kx_Vi 261 (ci := 0) F (As := [vI a1, vI a4, vI 8]) (st := [vI (M 173 (21 * a2 + a3)), vI (21 * a2 + a3 + 1), vR G 173]) vd_X12_323 (c_X12_leads G l N_52 a1 a4 8 hI_N_52 (by omega)) kd_163 rfl rfl rfl ⟨by decide, by decide⟩ rfl rfl (Nat.le_of_ble_eq_true rfl) dX12_reads_258 rfl ?_
        intro r_54 N_55 q_56
        obtain ⟨rfl, q_56c⟩ := q_56
        refine kx_Si 264 F (As := [vI (M 173 (21 * a2 + a3)), vI r_54]) (st := [vI (21 * a2 + a3 + 1), vR G 173]) sd_X12_326 (c_X12_then G l N_52 (M 173 (21 * a2 + a3)) r_54 hI_N_52 (by omega)) ⟨by decide, by decide⟩ rfl rfl (Nat.le_of_ble_eq_true rfl) dX12_reads_261 rfl ?_
        intro r_57 N_58 q_59
        obtain ⟨rfl, q_59c⟩ := q_59
        refine kx_iast 265 F kd_173 rfl rfl (by omega) (by decide) dX12_reads_264 rfl ?_
        intro N_60 hM_N_60
        have hI_N_60 : Inv true N_60 := Inv.u hI_N_52 hM_N_60 kd_173 (a := 0) (b := 511) rfl rfl rfl (by omega)
        have hF_N_60 : Fr f_c_X12_reads M N_60 := Fr.u hF_N_52 hM_N_60 kd_173 rfl
        have e_61 : (N_60 175 a3) = a4 := by rw [hM_N_60, mu_k kd_175 kd_173 rfl, hM_N_52, mu_k kd_175 kd_172 rfl, hM_N_22, mu_k kd_175 kd_174 rfl, hM_N_6, mu_s]
        have e_62 : (N_60 174 (a3 + 1)) = y0_19 := by rw [hM_N_60, mu_k kd_174 kd_173 rfl, hM_N_52, mu_k kd_174 kd_172 rfl, hM_N_22, mu_s]
        exact kx_vret F hQ ⟨hI_N_60, hF_N_60, (WB.step hW (by omega) (fun j hj => by rw [hM_N_60, mu_k kd_175 kd_173 rfl, hM_N_52, mu_k kd_175 kd_172 rfl, hM_N_22, mu_k kd_175 kd_174 rfl, hM_N_6, mu_i (by omega)]) (by omega) (fun j hj => by rw [hM_N_60, mu_k kd_174 kd_173 rfl, hM_N_52, mu_k kd_174 kd_172 rfl, hM_N_22, mu_i (by omega), hM_N_6, mu_k kd_174 kd_175 rfl]) (by omega))⟩ dX12_reads_265
      refine kx_icmp_ne 127 F 209 dX12_reads_124 (by decide) rfl (by omega) (by decide) (fun h_63 => ?_) (fun h_63 => ?_)
      · refine kx_drop 2 (lo' := [some (vR G 163), some (vI a1), none, none, some (vI a4), some (vI (21 * a2 + a3)), some (vI r_1), some (vI (M 174 a3)), none]) rfl ?_
        refine kx_drop 6 (lo' := [some (vR G 163), some (vI a1), none, none, some (vI a4), some (vI (21 * a2 + a3)), none, some (vI (M 174 a3)), none]) rfl ?_
        refine kx_drop 7 (lo' := [some (vR G 163), some (vI a1), none, none, some (vI a4), some (vI (21 * a2 + a3)), none, none, none]) rfl ?_
        exact J_43 
      · refine kx_iload 129 F 7 dX12_reads_127 rfl rfl ?_
        refine kx_iconst 130 F dX12_reads_129 rfl ?_
        refine kx_icmp_eq 133 F 209 dX12_reads_130 (by decide) rfl (by omega) (by decide) (fun h_64 => ?_) (fun h_64 => ?_)
        · refine kx_drop 2 (lo' := [some (vR G 163), some (vI a1), none, none, some (vI a4), some (vI (21 * a2 + a3)), some (vI r_1), some (vI (M 174 a3)), none]) rfl ?_
          refine kx_drop 6 (lo' := [some (vR G 163), some (vI a1), none, none, some (vI a4), some (vI (21 * a2 + a3)), none, some (vI (M 174 a3)), none]) rfl ?_
          refine kx_drop 7 (lo' := [some (vR G 163), some (vI a1), none, none, some (vI a4), some (vI (21 * a2 + a3)), none, none, none]) rfl ?_
          exact J_43 
        · have h_65 := WB.bel hW (M 174 a3) (by omega)
          have h_66 := WB.let hW (M 174 a3) (by omega)
          refine kx_aload_n 134 F 0 dX12_reads_133 rfl rfl rfl ?_
          refine kx_iload_n 135 F 1 dX12_reads_134 rfl rfl rfl ?_
          refine kx_aload_n 136 F 0 dX12_reads_135 rfl rfl rfl ?_
          refine kx_getr 139 F fl_X12_50 kd_163 rfl rfl (j := 22) rfl dX12_reads_136 (v := 173) (uq_173 (Inv.r hI_N_22 kd_163 rfl 22 rfl rfl)) rfl ?_
          refine kx_iload 141 F 5 dX12_reads_139 rfl rfl ?_
          refine kx_iald 142 F kd_173 rfl rfl (by omega) (by decide) dX12_reads_141 (v := (M 173 (21 * a2 + a3))) (by rw [hM_N_22, mu_k kd_173 kd_174 rfl, hM_N_6, mu_k kd_173 kd_175 rfl]) rfl ?_
          have h_67 := Inv.g hI_M kd_173 rfl (21 * a2 + a3) (a := 0) (b := 511) rfl rfl
          refine kx_aload_n 143 F 0 dX12_reads_142 rfl rfl rfl ?_
          refine kx_getr 146 F fl_X12_56 kd_163 rfl rfl (j := 24) rfl dX12_reads_143 (v := 175) (uq_175 (Inv.r hI_N_22 kd_163 rfl 24 rfl rfl)) rfl ?_
          refine kx_iload 148 F 7 dX12_reads_146 rfl rfl ?_
          refine kx_iald 149 F kd_175 rfl rfl (by omega) (by decide) dX12_reads_148 (v := (M 175 (M 174 a3))) (by rw [hM_N_22, mu_k kd_175 kd_174 rfl, hM_N_6, mu_i (by omega)]) rfl ?_
          have h_68 := Inv.g hI_M kd_175 rfl (M 174 a3) (a := 0) (b := 19) rfl rfl
          refine kx_iload 151 F 4 dX12_reads_149 rfl rfl ?_
          refine kx_Vi 154 (ci := 0) F (As := [vI a1, vI (M 173 (21 * a2 + a3)), vI (M 175 (M 174 a3)), vI a4]) (st := []) vd_X12_335 (c_X12_over G l N_22 a1 (M 173 (21 * a2 + a3)) (M 175 (M 174 a3)) a4 hI_N_22 (by omega)) kd_163 rfl rfl rfl ⟨by decide, by decide⟩ rfl rfl (Nat.le_of_ble_eq_true rfl) dX12_reads_151 rfl ?_
          intro r_69 N_70 q_71
          obtain ⟨rfl, q_71c⟩ := q_71
          refine kx_istore 156 F 8 (lo' := [some (vR G 163), some (vI a1), some (vI a2), none, some (vI a4), some (vI (21 * a2 + a3)), some (vI r_1), some (vI (M 174 a3)), some (vI r_69)]) dX12_reads_154 (by decide) rfl rfl rfl ?_
          refine kx_aload_n 157 F 0 dX12_reads_156 rfl rfl rfl ?_
          refine kx_getr 160 F fl_X12_47 kd_163 rfl rfl (j := 21) rfl dX12_reads_157 (v := 172) (uq_172 (Inv.r hI_N_22 kd_163 rfl 21 rfl rfl)) rfl ?_
          refine kx_iload 162 F 5 dX12_reads_160 rfl rfl ?_
          refine kx_iconst 163 F dX12_reads_162 rfl ?_
          refine kx_iadd 164 F (v := 21 * a2 + a3 + 1) dX12_reads_163 rfl rfl ?_
          refine kx_aload_n 165 F 0 dX12_reads_164 rfl rfl rfl ?_
          refine kx_getr 168 F fl_X12_47 kd_163 rfl rfl (j := 21) rfl dX12_reads_165 (v := 172) (uq_172 (Inv.r hI_N_22 kd_163 rfl 21 rfl rfl)) rfl ?_
          refine kx_bipush 170 F dX12_reads_168 (by decide) rfl ?_
          refine kx_iload_n 171 F 2 dX12_reads_170 rfl rfl rfl ?_
          refine kx_imul 172 F (v := 21 * a2) dX12_reads_171 (by omega) rfl ?_
          refine kx_iload 174 F 7 dX12_reads_172 rfl rfl ?_
          refine kx_iadd 175 F (v := 21 * a2 + (M 174 a3)) dX12_reads_174 rfl rfl ?_
          refine kx_iald 176 F kd_172 rfl rfl (by omega) (by decide) dX12_reads_175 (v := (M 172 (21 * a2 + (M 174 a3)))) (by rw [hM_N_22, mu_k kd_172 kd_174 rfl, hM_N_6, mu_k kd_172 kd_175 rfl]) rfl ?_
          have h_72 := Inv.g hI_M kd_172 rfl (21 * a2 + (M 174 a3)) (a := 0) (b := 7) rfl rfl
          refine kx_iload 178 F 8 dX12_reads_176 rfl rfl ?_
          refine kx_Si 181 F (As := [vI (M 172 (21 * a2 + (M 174 a3))), vI r_69]) (st := [vI (21 * a2 + a3 + 1), vR G 172]) sd_X12_332 (c_X12_image G l N_22 (M 172 (21 * a2 + (M 174 a3))) r_69 hI_N_22 (by omega)) ⟨by decide, by decide⟩ rfl rfl (Nat.le_of_ble_eq_true rfl) dX12_reads_178 rfl ?_
          intro r_73 N_74 q_75
          obtain ⟨rfl, q_75c⟩ := q_75
          refine kx_iast 182 F kd_172 rfl rfl (by omega) (by decide) dX12_reads_181 rfl ?_
          intro N_76 hM_N_76
          have hI_N_76 : Inv true N_76 := Inv.u hI_N_22 hM_N_76 kd_172 (a := 0) (b := 7) rfl rfl rfl (by omega)
          have hF_N_76 : Fr f_c_X12_reads M N_76 := Fr.u hF_N_22 hM_N_76 kd_172 rfl
          refine kx_aload_n 183 F 0 dX12_reads_182 rfl rfl rfl ?_
          refine kx_getr 186 F fl_X12_50 kd_163 rfl rfl (j := 22) rfl dX12_reads_183 (v := 173) (uq_173 (Inv.r hI_N_76 kd_163 rfl 22 rfl rfl)) rfl ?_
          refine kx_iload 188 F 5 dX12_reads_186 rfl rfl ?_
          refine kx_iconst 189 F dX12_reads_188 rfl ?_
          refine kx_iadd 190 F (v := 21 * a2 + a3 + 1) dX12_reads_189 rfl rfl ?_
          refine kx_aload_n 191 F 0 dX12_reads_190 rfl rfl rfl ?_
          refine kx_getr 194 F fl_X12_50 kd_163 rfl rfl (j := 22) rfl dX12_reads_191 (v := 173) (uq_173 (Inv.r hI_N_76 kd_163 rfl 22 rfl rfl)) rfl ?_
          refine kx_bipush 196 F dX12_reads_194 (by decide) rfl ?_
          refine kx_iload_n 197 F 2 dX12_reads_196 rfl rfl rfl ?_
          refine kx_imul 198 F (v := 21 * a2) dX12_reads_197 (by omega) rfl ?_
          refine kx_iload 200 F 7 dX12_reads_198 rfl rfl ?_
          refine kx_iadd 201 F (v := 21 * a2 + (M 174 a3)) dX12_reads_200 rfl rfl ?_
          refine kx_iald 202 F kd_173 rfl rfl (by omega) (by decide) dX12_reads_201 (v := (M 173 (21 * a2 + (M 174 a3)))) (by rw [hM_N_76, mu_k kd_173 kd_172 rfl, hM_N_22, mu_k kd_173 kd_174 rfl, hM_N_6, mu_k kd_173 kd_175 rfl]) rfl ?_
          have h_77 := Inv.g hI_M kd_173 rfl (21 * a2 + (M 174 a3)) (a := 0) (b := 511) rfl rfl
          refine kx_iload 204 F 8 dX12_reads_202 rfl rfl ?_
          refine kx_Si 207 F (As := [vI (M 173 (21 * a2 + (M 174 a3))), vI r_69]) (st := [vI (21 * a2 + a3 + 1), vR G 173]) sd_X12_326 (c_X12_then G l N_76 (M 173 (21 * a2 + (M 174 a3))) r_69 hI_N_76 (by omega)) ⟨by decide, by decide⟩ rfl rfl (Nat.le_of_ble_eq_true rfl) dX12_reads_204 rfl ?_
          intro r_78 N_79 q_80
          obtain ⟨rfl, q_80c⟩ := q_80
          refine kx_iast 208 F kd_173 rfl rfl (by omega) (by decide) dX12_reads_207 rfl ?_
          intro N_81 hM_N_81
          have hI_N_81 : Inv true N_81 := Inv.u hI_N_76 hM_N_81 kd_173 (a := 0) (b := 511) rfl rfl rfl (by omega)
          have hF_N_81 : Fr f_c_X12_reads M N_81 := Fr.u hF_N_76 hM_N_81 kd_173 rfl
          have e_82 : (N_81 175 a3) = a4 := by rw [hM_N_81, mu_k kd_175 kd_173 rfl, hM_N_76, mu_k kd_175 kd_172 rfl, hM_N_22, mu_k kd_175 kd_174 rfl, hM_N_6, mu_s]
          have e_83 : (N_81 174 (a3 + 1)) = y0_19 := by rw [hM_N_81, mu_k kd_174 kd_173 rfl, hM_N_76, mu_k kd_174 kd_172 rfl, hM_N_22, mu_s]
          exact kx_vret F hQ ⟨hI_N_81, hF_N_81, (WB.step hW (by omega) (fun j hj => by rw [hM_N_81, mu_k kd_175 kd_173 rfl, hM_N_76, mu_k kd_175 kd_172 rfl, hM_N_22, mu_k kd_175 kd_174 rfl, hM_N_6, mu_i (by omega)]) (by omega) (fun j hj => by rw [hM_N_81, mu_k kd_174 kd_173 rfl, hM_N_76, mu_k kd_174 kd_172 rfl, hM_N_22, mu_i (by omega), hM_N_6, mu_k kd_174 kd_175 rfl]) (by omega))⟩ dX12_reads_208
    · refine kx_aload_n 79 F 0 dX12_reads_78 rfl rfl rfl ?_
      refine kx_getr 82 F fl_X12_47 kd_163 rfl rfl (j := 21) rfl dX12_reads_79 (v := 172) (uq_172 (Inv.r hI_N_22 kd_163 rfl 21 rfl rfl)) rfl ?_
      refine kx_iload 84 F 5 dX12_reads_82 rfl rfl ?_
      refine kx_iconst 85 F dX12_reads_84 rfl ?_
      refine kx_iadd 86 F (v := 21 * a2 + a3 + 1) dX12_reads_85 rfl rfl ?_
      refine kx_aload_n 87 F 0 dX12_reads_86 rfl rfl rfl ?_
      refine kx_getr 90 F fl_X12_47 kd_163 rfl rfl (j := 21) rfl dX12_reads_87 (v := 172) (uq_172 (Inv.r hI_N_22 kd_163 rfl 21 rfl rfl)) rfl ?_
      refine kx_iload 92 F 5 dX12_reads_90 rfl rfl ?_
      refine kx_iald 93 F kd_172 rfl rfl (by omega) (by decide) dX12_reads_92 (v := (M 172 (21 * a2 + a3))) (by rw [hM_N_22, mu_k kd_172 kd_174 rfl, hM_N_6, mu_k kd_172 kd_175 rfl]) rfl ?_
      have h_84 := Inv.g hI_M kd_172 rfl (21 * a2 + a3) (a := 0) (b := 7) rfl rfl
      refine kx_aload_n 94 F 0 dX12_reads_93 rfl rfl rfl ?_
      refine kx_iload_n 95 F 1 dX12_reads_94 rfl rfl rfl ?_
      refine kx_iload 97 F 4 dX12_reads_95 rfl rfl ?_
      refine kx_bipush 99 F dX12_reads_97 (by decide) rfl ?_
      refine kx_Vi 102 (ci := 0) F (As := [vI a1, vI a4, vI 7]) (st := [vI (M 172 (21 * a2 + a3)), vI (21 * a2 + a3 + 1), vR G 172]) vd_X12_323 (c_X12_leads G l N_22 a1 a4 7 hI_N_22 (by omega)) kd_163 rfl rfl rfl ⟨by decide, by decide⟩ rfl rfl (Nat.le_of_ble_eq_true rfl) dX12_reads_99 rfl ?_
      intro r_85 N_86 q_87
      obtain ⟨rfl, q_87c⟩ := q_87
      refine kx_Si 105 F (As := [vI (M 172 (21 * a2 + a3)), vI r_85]) (st := [vI (21 * a2 + a3 + 1), vR G 172]) sd_X12_332 (c_X12_image G l N_22 (M 172 (21 * a2 + a3)) r_85 hI_N_22 (by omega)) ⟨by decide, by decide⟩ rfl rfl (Nat.le_of_ble_eq_true rfl) dX12_reads_102 rfl ?_
      intro r_88 N_89 q_90
      obtain ⟨rfl, q_90c⟩ := q_90
      refine kx_iast 106 F kd_172 rfl rfl (by omega) (by decide) dX12_reads_105 rfl ?_
      intro N_91 hM_N_91
      have hI_N_91 : Inv true N_91 := Inv.u hI_N_22 hM_N_91 kd_172 (a := 0) (b := 7) rfl rfl rfl (by omega)
      have hF_N_91 : Fr f_c_X12_reads M N_91 := Fr.u hF_N_22 hM_N_91 kd_172 rfl
      refine kx_aload_n 107 F 0 dX12_reads_106 rfl rfl rfl ?_
      refine kx_getr 110 F fl_X12_50 kd_163 rfl rfl (j := 22) rfl dX12_reads_107 (v := 173) (uq_173 (Inv.r hI_N_91 kd_163 rfl 22 rfl rfl)) rfl ?_
      refine kx_iload 112 F 5 dX12_reads_110 rfl rfl ?_
      refine kx_iconst 113 F dX12_reads_112 rfl ?_
      refine kx_iadd 114 F (v := 21 * a2 + a3 + 1) dX12_reads_113 rfl rfl ?_
      refine kx_aload_n 115 F 0 dX12_reads_114 rfl rfl rfl ?_
      refine kx_iload_n 116 F 1 dX12_reads_115 rfl rfl rfl ?_
      refine kx_Vi 119 (ci := 0) F (As := [vI a1]) (st := [vI (21 * a2 + a3 + 1), vR G 173]) vd_X12_329 (c_X12_same G l N_91 a1 hI_N_91 (by omega)) kd_163 rfl rfl rfl ⟨by decide, by decide⟩ rfl rfl (Nat.le_of_ble_eq_true rfl) dX12_reads_116 rfl ?_
      intro r_92 N_93 q_94
      obtain ⟨rfl, q_94c⟩ := q_94
      refine kx_iast 120 F kd_173 rfl rfl (by omega) (by decide) dX12_reads_119 rfl ?_
      intro N_95 hM_N_95
      have hI_N_95 : Inv true N_95 := Inv.u hI_N_91 hM_N_95 kd_173 (a := 0) (b := 511) rfl rfl rfl (by omega)
      have hF_N_95 : Fr f_c_X12_reads M N_95 := Fr.u hF_N_91 hM_N_95 kd_173 rfl
      have e_96 : (N_95 175 a3) = a4 := by rw [hM_N_95, mu_k kd_175 kd_173 rfl, hM_N_91, mu_k kd_175 kd_172 rfl, hM_N_22, mu_k kd_175 kd_174 rfl, hM_N_6, mu_s]
      have e_97 : (N_95 174 (a3 + 1)) = y0_19 := by rw [hM_N_95, mu_k kd_174 kd_173 rfl, hM_N_91, mu_k kd_174 kd_172 rfl, hM_N_22, mu_s]
      exact kx_vret F hQ ⟨hI_N_95, hF_N_95, (WB.step hW (by omega) (fun j hj => by rw [hM_N_95, mu_k kd_175 kd_173 rfl, hM_N_91, mu_k kd_175 kd_172 rfl, hM_N_22, mu_k kd_175 kd_174 rfl, hM_N_6, mu_i (by omega)]) (by omega) (fun j hj => by rw [hM_N_95, mu_k kd_174 kd_173 rfl, hM_N_91, mu_k kd_174 kd_172 rfl, hM_N_22, mu_i (by omega), hM_N_6, mu_k kd_174 kd_175 rfl]) (by omega))⟩ dX12_reads_120
  refine kx_if_ne 44 F 48 dX12_reads_41 (by decide) rfl (by omega) (fun h_98 => ?_) (fun h_98 => ?_)
  · refine kx_iload 50 F 6 dX12_reads_48 rfl rfl ?_
    refine kx_iconst 51 F dX12_reads_50 rfl ?_
    have J_125 : KJ true G X N_6 70 [some (vR G 163), some (vI a1), some (vI a2), none, some (vI a4), some (vI (21 * a2 + a3)), some (vI r_1), some (vI (M 174 a3)), none] [vI (a3 + 1), vR G 174] := by
      refine kx_iload 72 F 7 dX12_reads_70 rfl rfl ?_
      exact J_20 (M 174 a3) (by omega)
    refine kx_icmp_ne 54 F 70 dX12_reads_51 (by decide) rfl (by omega) (by decide) (fun h_127 => ?_) (fun h_127 => ?_)
    · refine kx_drop 3 (lo' := [some (vR G 163), some (vI a1), some (vI a2), none, some (vI a4), some (vI (21 * a2 + a3)), some (vI r_1), some (vI (M 174 a3)), none]) rfl ?_
      exact J_125 
    · refine kx_iload 56 F 7 dX12_reads_54 rfl rfl ?_
      refine kx_iconst 57 F dX12_reads_56 rfl ?_
      refine kx_icmp_eq 60 F 70 dX12_reads_57 (by decide) rfl (by omega) (by decide) (fun h_128 => ?_) (fun h_128 => ?_)
      · refine kx_drop 3 (lo' := [some (vR G 163), some (vI a1), some (vI a2), none, some (vI a4), some (vI (21 * a2 + a3)), some (vI r_1), some (vI (M 174 a3)), none]) rfl ?_
        exact J_125 
      · have h_129 := WB.bel hW (M 174 a3) (by omega)
        have h_130 := WB.let hW (M 174 a3) (by omega)
        refine kx_aload_n 61 F 0 dX12_reads_60 rfl rfl rfl ?_
        refine kx_getr 64 F fl_X12_53 kd_163 rfl rfl (j := 23) rfl dX12_reads_61 (v := 174) (uq_174 (Inv.r hI_N_6 kd_163 rfl 23 rfl rfl)) rfl ?_
        refine kx_iload 66 F 7 dX12_reads_64 rfl rfl ?_
        refine kx_iald 67 F kd_174 rfl rfl (by omega) (by decide) dX12_reads_66 (v := (M 174 (M 174 a3))) (by rw [hM_N_6, mu_k kd_174 kd_175 rfl]) rfl ?_
        have h_131 := Inv.g hI_M kd_174 rfl (M 174 a3) (a := (-1)) (b := 19) rfl rfl
        refine kx_goto 72 F dX12_reads_67 (by decide) ?_
        refine kx_drop 3 (lo' := [some (vR G 163), some (vI a1), some (vI a2), none, some (vI a4), some (vI (21 * a2 + a3)), some (vI r_1), some (vI (M 174 a3)), none]) rfl ?_
        exact J_20 (M 174 (M 174 a3)) (by omega)
  · refine kx_iload_n 45 F 3 dX12_reads_44 rfl rfl rfl ?_
    refine kx_goto 72 F dX12_reads_45 (by decide) ?_
    refine kx_drop 3 (lo' := [some (vR G 163), some (vI a1), some (vI a2), none, some (vI a4), some (vI (21 * a2 + a3)), some (vI r_1), some (vI (M 174 a3)), none]) rfl ?_
    exact J_20 a3 (by omega)
set_option maxRecDepth 100000 in
theorem dGR_28_c_891 : (decode cX12_endsBy 0 = .ok (.aload_n 0, 1)) ∧ (decode cX12_endsBy 1 = .ok (.invokevirtual 342, 3)) ∧ (decode cX12_endsBy 4 = .ok (.aload_n 0, 1)) ∧ (decode cX12_endsBy 5 = .ok (.iload_n 1, 1)) ∧ (decode cX12_endsBy 6 = .ok (.iconst 0, 1)) ∧ (decode cX12_endsBy 7 = .ok (.invokevirtual 345, 3)) ∧ (decode cX12_endsBy 10 = .ok (.iconst 0, 1)) ∧ (decode cX12_endsBy 11 = .ok (.istore 4, 2)) ∧ (decode cX12_endsBy 13 = .ok (.iload 4, 2)) ∧ (decode cX12_endsBy 15 = .ok (.iload_n 3, 1)) ∧ (decode cX12_endsBy 16 = .ok (.if_icmp .ge 24, 3)) ∧ (decode cX12_endsBy 19 = .ok (.aload_n 0, 1)) := by decide +kernel
theorem dX12_endsBy_0 : decode cX12_endsBy 0 = .ok (.aload_n 0, 1) := dGR_28_c_891.1
theorem dX12_endsBy_1 : decode cX12_endsBy 1 = .ok (.invokevirtual 342, 3) := dGR_28_c_891.2.1
theorem dX12_endsBy_4 : decode cX12_endsBy 4 = .ok (.aload_n 0, 1) := dGR_28_c_891.2.2.1
theorem dX12_endsBy_5 : decode cX12_endsBy 5 = .ok (.iload_n 1, 1) := dGR_28_c_891.2.2.2.1
theorem dX12_endsBy_6 : decode cX12_endsBy 6 = .ok (.iconst 0, 1) := dGR_28_c_891.2.2.2.2.1
theorem dX12_endsBy_7 : decode cX12_endsBy 7 = .ok (.invokevirtual 345, 3) := dGR_28_c_891.2.2.2.2.2.1
theorem dX12_endsBy_10 : decode cX12_endsBy 10 = .ok (.iconst 0, 1) := dGR_28_c_891.2.2.2.2.2.2.1
theorem dX12_endsBy_11 : decode cX12_endsBy 11 = .ok (.istore 4, 2) := dGR_28_c_891.2.2.2.2.2.2.2.1
theorem dX12_endsBy_13 : decode cX12_endsBy 13 = .ok (.iload 4, 2) := dGR_28_c_891.2.2.2.2.2.2.2.2.1
theorem dX12_endsBy_15 : decode cX12_endsBy 15 = .ok (.iload_n 3, 1) := dGR_28_c_891.2.2.2.2.2.2.2.2.2.1
theorem dX12_endsBy_16 : decode cX12_endsBy 16 = .ok (.if_icmp .ge 24, 3) := dGR_28_c_891.2.2.2.2.2.2.2.2.2.2.1
theorem dX12_endsBy_19 : decode cX12_endsBy 19 = .ok (.aload_n 0, 1) := dGR_28_c_891.2.2.2.2.2.2.2.2.2.2.2
set_option maxRecDepth 100000 in
theorem dGR_28_c_892 : (decode cX12_endsBy 20 = .ok (.iload_n 1, 1)) ∧ (decode cX12_endsBy 21 = .ok (.iconst 0, 1)) ∧ (decode cX12_endsBy 22 = .ok (.iload 4, 2)) ∧ (decode cX12_endsBy 24 = .ok (.aload_n 0, 1)) ∧ (decode cX12_endsBy 25 = .ok (.iload_n 2, 1)) ∧ (decode cX12_endsBy 26 = .ok (.iload 4, 2)) ∧ (decode cX12_endsBy 28 = .ok (.invokevirtual 349, 3)) ∧ (decode cX12_endsBy 31 = .ok (.invokevirtual 352, 3)) ∧ (decode cX12_endsBy 34 = .ok (.iinc 4 1, 3)) ∧ (decode cX12_endsBy 37 = .ok (.goto (-24), 3)) ∧ (decode cX12_endsBy 40 = .ok (.aload_n 0, 1)) ∧ (decode cX12_endsBy 41 = .ok (.getfield 47, 3)) := by decide +kernel
theorem dX12_endsBy_20 : decode cX12_endsBy 20 = .ok (.iload_n 1, 1) := dGR_28_c_892.1
theorem dX12_endsBy_21 : decode cX12_endsBy 21 = .ok (.iconst 0, 1) := dGR_28_c_892.2.1
theorem dX12_endsBy_22 : decode cX12_endsBy 22 = .ok (.iload 4, 2) := dGR_28_c_892.2.2.1
theorem dX12_endsBy_24 : decode cX12_endsBy 24 = .ok (.aload_n 0, 1) := dGR_28_c_892.2.2.2.1
theorem dX12_endsBy_25 : decode cX12_endsBy 25 = .ok (.iload_n 2, 1) := dGR_28_c_892.2.2.2.2.1
theorem dX12_endsBy_26 : decode cX12_endsBy 26 = .ok (.iload 4, 2) := dGR_28_c_892.2.2.2.2.2.1
theorem dX12_endsBy_28 : decode cX12_endsBy 28 = .ok (.invokevirtual 349, 3) := dGR_28_c_892.2.2.2.2.2.2.1
theorem dX12_endsBy_31 : decode cX12_endsBy 31 = .ok (.invokevirtual 352, 3) := dGR_28_c_892.2.2.2.2.2.2.2.1
theorem dX12_endsBy_34 : decode cX12_endsBy 34 = .ok (.iinc 4 1, 3) := dGR_28_c_892.2.2.2.2.2.2.2.2.1
theorem dX12_endsBy_37 : decode cX12_endsBy 37 = .ok (.goto (-24), 3) := dGR_28_c_892.2.2.2.2.2.2.2.2.2.1
theorem dX12_endsBy_40 : decode cX12_endsBy 40 = .ok (.aload_n 0, 1) := dGR_28_c_892.2.2.2.2.2.2.2.2.2.2.1
theorem dX12_endsBy_41 : decode cX12_endsBy 41 = .ok (.getfield 47, 3) := dGR_28_c_892.2.2.2.2.2.2.2.2.2.2.2
set_option maxRecDepth 100000 in
theorem dGR_28_c_893 : (decode cX12_endsBy 44 = .ok (.iload_n 3, 1)) ∧ (decode cX12_endsBy 45 = .ok (.iaload, 1)) ∧ (decode cX12_endsBy 46 = .ok (.ireturn, 1)) := by decide +kernel
theorem dX12_endsBy_44 : decode cX12_endsBy 44 = .ok (.iload_n 3, 1) := dGR_28_c_893.1
theorem dX12_endsBy_45 : decode cX12_endsBy 45 = .ok (.iaload, 1) := dGR_28_c_893.2.1
theorem dX12_endsBy_46 : decode cX12_endsBy 46 = .ok (.ireturn, 1) := dGR_28_c_893.2.2
set_option maxRecDepth 100000 in
theorem dGR_28_c_894 : (decode cX12_takes 0 = .ok (.aload_n 0, 1)) ∧ (decode cX12_takes 1 = .ok (.iload_n 1, 1)) ∧ (decode cX12_takes 2 = .ok (.invokevirtual 282, 3)) ∧ (decode cX12_takes 5 = .ok (.ifCond .eq 12, 3)) ∧ (decode cX12_takes 8 = .ok (.aload_n 0, 1)) ∧ (decode cX12_takes 9 = .ok (.iload_n 2, 1)) ∧ (decode cX12_takes 10 = .ok (.iload_n 3, 1)) ∧ (decode cX12_takes 11 = .ok (.invokevirtual 358, 3)) ∧ (decode cX12_takes 14 = .ok (.ifCond .ne 9, 3)) ∧ (decode cX12_takes 17 = .ok (.aload_n 0, 1)) ∧ (decode cX12_takes 18 = .ok (.iconst 1, 1)) ∧ (decode cX12_takes 19 = .ok (.invokevirtual 123, 3)) := by decide +kernel
theorem dX12_takes_0 : decode cX12_takes 0 = .ok (.aload_n 0, 1) := dGR_28_c_894.1
theorem dX12_takes_1 : decode cX12_takes 1 = .ok (.iload_n 1, 1) := dGR_28_c_894.2.1
theorem dX12_takes_2 : decode cX12_takes 2 = .ok (.invokevirtual 282, 3) := dGR_28_c_894.2.2.1
theorem dX12_takes_5 : decode cX12_takes 5 = .ok (.ifCond .eq 12, 3) := dGR_28_c_894.2.2.2.1
theorem dX12_takes_8 : decode cX12_takes 8 = .ok (.aload_n 0, 1) := dGR_28_c_894.2.2.2.2.1
theorem dX12_takes_9 : decode cX12_takes 9 = .ok (.iload_n 2, 1) := dGR_28_c_894.2.2.2.2.2.1
theorem dX12_takes_10 : decode cX12_takes 10 = .ok (.iload_n 3, 1) := dGR_28_c_894.2.2.2.2.2.2.1
theorem dX12_takes_11 : decode cX12_takes 11 = .ok (.invokevirtual 358, 3) := dGR_28_c_894.2.2.2.2.2.2.2.1
theorem dX12_takes_14 : decode cX12_takes 14 = .ok (.ifCond .ne 9, 3) := dGR_28_c_894.2.2.2.2.2.2.2.2.1
theorem dX12_takes_17 : decode cX12_takes 17 = .ok (.aload_n 0, 1) := dGR_28_c_894.2.2.2.2.2.2.2.2.2.1
theorem dX12_takes_18 : decode cX12_takes 18 = .ok (.iconst 1, 1) := dGR_28_c_894.2.2.2.2.2.2.2.2.2.2.1
theorem dX12_takes_19 : decode cX12_takes 19 = .ok (.invokevirtual 123, 3) := dGR_28_c_894.2.2.2.2.2.2.2.2.2.2.2
set_option maxRecDepth 100000 in
theorem dGR_28_c_895 : (decode cX12_takes 22 = .ok (.ireturn, 1)) ∧ (decode cX12_takes 23 = .ok (.aload_n 0, 1)) ∧ (decode cX12_takes 24 = .ok (.iload_n 2, 1)) ∧ (decode cX12_takes 25 = .ok (.iload_n 3, 1)) ∧ (decode cX12_takes 26 = .ok (.invokevirtual 361, 3)) ∧ (decode cX12_takes 29 = .ok (.istore 4, 2)) ∧ (decode cX12_takes 31 = .ok (.iload 4, 2)) ∧ (decode cX12_takes 33 = .ok (.ifCond .le 10, 3)) ∧ (decode cX12_takes 36 = .ok (.aload_n 0, 1)) ∧ (decode cX12_takes 37 = .ok (.iload 4, 2)) ∧ (decode cX12_takes 39 = .ok (.invokevirtual 123, 3)) ∧ (decode cX12_takes 42 = .ok (.ireturn, 1)) := by decide +kernel
theorem dX12_takes_22 : decode cX12_takes 22 = .ok (.ireturn, 1) := dGR_28_c_895.1
theorem dX12_takes_23 : decode cX12_takes 23 = .ok (.aload_n 0, 1) := dGR_28_c_895.2.1
theorem dX12_takes_24 : decode cX12_takes 24 = .ok (.iload_n 2, 1) := dGR_28_c_895.2.2.1
theorem dX12_takes_25 : decode cX12_takes 25 = .ok (.iload_n 3, 1) := dGR_28_c_895.2.2.2.1
theorem dX12_takes_26 : decode cX12_takes 26 = .ok (.invokevirtual 361, 3) := dGR_28_c_895.2.2.2.2.1
theorem dX12_takes_29 : decode cX12_takes 29 = .ok (.istore 4, 2) := dGR_28_c_895.2.2.2.2.2.1
theorem dX12_takes_31 : decode cX12_takes 31 = .ok (.iload 4, 2) := dGR_28_c_895.2.2.2.2.2.2.1
theorem dX12_takes_33 : decode cX12_takes 33 = .ok (.ifCond .le 10, 3) := dGR_28_c_895.2.2.2.2.2.2.2.1
theorem dX12_takes_36 : decode cX12_takes 36 = .ok (.aload_n 0, 1) := dGR_28_c_895.2.2.2.2.2.2.2.2.1
theorem dX12_takes_37 : decode cX12_takes 37 = .ok (.iload 4, 2) := dGR_28_c_895.2.2.2.2.2.2.2.2.2.1
theorem dX12_takes_39 : decode cX12_takes 39 = .ok (.invokevirtual 123, 3) := dGR_28_c_895.2.2.2.2.2.2.2.2.2.2.1
theorem dX12_takes_42 : decode cX12_takes 42 = .ok (.ireturn, 1) := dGR_28_c_895.2.2.2.2.2.2.2.2.2.2.2
set_option maxRecDepth 100000 in
theorem dGR_28_c_896 : (decode cX12_takes 43 = .ok (.aload_n 0, 1)) ∧ (decode cX12_takes 44 = .ok (.aload_n 0, 1)) ∧ (decode cX12_takes 45 = .ok (.iload_n 1, 1)) ∧ (decode cX12_takes 46 = .ok (.iload_n 2, 1)) ∧ (decode cX12_takes 47 = .ok (.iload_n 3, 1)) ∧ (decode cX12_takes 48 = .ok (.invokevirtual 364, 3)) ∧ (decode cX12_takes 51 = .ok (.aload_n 0, 1)) ∧ (decode cX12_takes 52 = .ok (.iload_n 1, 1)) ∧ (decode cX12_takes 53 = .ok (.iconst 3, 1)) ∧ (decode cX12_takes 54 = .ok (.invokevirtual 288, 3)) ∧ (decode cX12_takes 57 = .ok (.iand, 1)) ∧ (decode cX12_takes 58 = .ok (.ifCond .eq 7, 3)) := by decide +kernel
theorem dX12_takes_43 : decode cX12_takes 43 = .ok (.aload_n 0, 1) := dGR_28_c_896.1
theorem dX12_takes_44 : decode cX12_takes 44 = .ok (.aload_n 0, 1) := dGR_28_c_896.2.1
theorem dX12_takes_45 : decode cX12_takes 45 = .ok (.iload_n 1, 1) := dGR_28_c_896.2.2.1
theorem dX12_takes_46 : decode cX12_takes 46 = .ok (.iload_n 2, 1) := dGR_28_c_896.2.2.2.1
theorem dX12_takes_47 : decode cX12_takes 47 = .ok (.iload_n 3, 1) := dGR_28_c_896.2.2.2.2.1
theorem dX12_takes_48 : decode cX12_takes 48 = .ok (.invokevirtual 364, 3) := dGR_28_c_896.2.2.2.2.2.1
theorem dX12_takes_51 : decode cX12_takes 51 = .ok (.aload_n 0, 1) := dGR_28_c_896.2.2.2.2.2.2.1
theorem dX12_takes_52 : decode cX12_takes 52 = .ok (.iload_n 1, 1) := dGR_28_c_896.2.2.2.2.2.2.2.1
theorem dX12_takes_53 : decode cX12_takes 53 = .ok (.iconst 3, 1) := dGR_28_c_896.2.2.2.2.2.2.2.2.1
theorem dX12_takes_54 : decode cX12_takes 54 = .ok (.invokevirtual 288, 3) := dGR_28_c_896.2.2.2.2.2.2.2.2.2.1
theorem dX12_takes_57 : decode cX12_takes 57 = .ok (.iand, 1) := dGR_28_c_896.2.2.2.2.2.2.2.2.2.2.1
theorem dX12_takes_58 : decode cX12_takes 58 = .ok (.ifCond .eq 7, 3) := dGR_28_c_896.2.2.2.2.2.2.2.2.2.2.2
set_option maxRecDepth 100000 in
theorem dGR_28_c_897 : (decode cX12_takes 61 = .ok (.iconst 1, 1)) ∧ (decode cX12_takes 62 = .ok (.goto 4, 3)) ∧ (decode cX12_takes 65 = .ok (.iconst 0, 1)) ∧ (decode cX12_takes 66 = .ok (.invokevirtual 127, 3)) ∧ (decode cX12_takes 69 = .ok (.ireturn, 1)) := by decide +kernel
theorem dX12_takes_61 : decode cX12_takes 61 = .ok (.iconst 1, 1) := dGR_28_c_897.1
theorem dX12_takes_62 : decode cX12_takes 62 = .ok (.goto 4, 3) := dGR_28_c_897.2.1
theorem dX12_takes_65 : decode cX12_takes 65 = .ok (.iconst 0, 1) := dGR_28_c_897.2.2.1
theorem dX12_takes_66 : decode cX12_takes 66 = .ok (.invokevirtual 127, 3) := dGR_28_c_897.2.2.2.1
theorem dX12_takes_69 : decode cX12_takes 69 = .ok (.ireturn, 1) := dGR_28_c_897.2.2.2.2
set_option maxRecDepth 100000 in
theorem dGR_28_c_898 : (decode cX12_ends 0 = .ok (.aload_n 0, 1)) ∧ (decode cX12_ends 1 = .ok (.iload_n 1, 1)) ∧ (decode cX12_ends 2 = .ok (.invokevirtual 282, 3)) ∧ (decode cX12_ends 5 = .ok (.ifCond .eq 12, 3)) ∧ (decode cX12_ends 8 = .ok (.aload_n 0, 1)) ∧ (decode cX12_ends 9 = .ok (.iload_n 2, 1)) ∧ (decode cX12_ends 10 = .ok (.iload_n 3, 1)) ∧ (decode cX12_ends 11 = .ok (.invokevirtual 358, 3)) ∧ (decode cX12_ends 14 = .ok (.ifCond .ne 9, 3)) ∧ (decode cX12_ends 17 = .ok (.aload_n 0, 1)) ∧ (decode cX12_ends 18 = .ok (.iconst 1, 1)) ∧ (decode cX12_ends 19 = .ok (.invokevirtual 123, 3)) := by decide +kernel
theorem dX12_ends_0 : decode cX12_ends 0 = .ok (.aload_n 0, 1) := dGR_28_c_898.1
theorem dX12_ends_1 : decode cX12_ends 1 = .ok (.iload_n 1, 1) := dGR_28_c_898.2.1
theorem dX12_ends_2 : decode cX12_ends 2 = .ok (.invokevirtual 282, 3) := dGR_28_c_898.2.2.1
theorem dX12_ends_5 : decode cX12_ends 5 = .ok (.ifCond .eq 12, 3) := dGR_28_c_898.2.2.2.1
theorem dX12_ends_8 : decode cX12_ends 8 = .ok (.aload_n 0, 1) := dGR_28_c_898.2.2.2.2.1
theorem dX12_ends_9 : decode cX12_ends 9 = .ok (.iload_n 2, 1) := dGR_28_c_898.2.2.2.2.2.1
theorem dX12_ends_10 : decode cX12_ends 10 = .ok (.iload_n 3, 1) := dGR_28_c_898.2.2.2.2.2.2.1
theorem dX12_ends_11 : decode cX12_ends 11 = .ok (.invokevirtual 358, 3) := dGR_28_c_898.2.2.2.2.2.2.2.1
theorem dX12_ends_14 : decode cX12_ends 14 = .ok (.ifCond .ne 9, 3) := dGR_28_c_898.2.2.2.2.2.2.2.2.1
theorem dX12_ends_17 : decode cX12_ends 17 = .ok (.aload_n 0, 1) := dGR_28_c_898.2.2.2.2.2.2.2.2.2.1
theorem dX12_ends_18 : decode cX12_ends 18 = .ok (.iconst 1, 1) := dGR_28_c_898.2.2.2.2.2.2.2.2.2.2.1
theorem dX12_ends_19 : decode cX12_ends 19 = .ok (.invokevirtual 123, 3) := dGR_28_c_898.2.2.2.2.2.2.2.2.2.2.2
set_option maxRecDepth 100000 in
theorem dGR_28_c_899 : (decode cX12_ends 22 = .ok (.ireturn, 1)) ∧ (decode cX12_ends 23 = .ok (.aload_n 0, 1)) ∧ (decode cX12_ends 24 = .ok (.iload_n 2, 1)) ∧ (decode cX12_ends 25 = .ok (.iload_n 3, 1)) ∧ (decode cX12_ends 26 = .ok (.invokevirtual 361, 3)) ∧ (decode cX12_ends 29 = .ok (.istore 4, 2)) ∧ (decode cX12_ends 31 = .ok (.iload 4, 2)) ∧ (decode cX12_ends 33 = .ok (.ifCond .le 12, 3)) ∧ (decode cX12_ends 36 = .ok (.aload_n 0, 1)) ∧ (decode cX12_ends 37 = .ok (.iload 4, 2)) ∧ (decode cX12_ends 39 = .ok (.invokevirtual 123, 3)) ∧ (decode cX12_ends 42 = .ok (.goto 14, 3)) := by decide +kernel
theorem dX12_ends_22 : decode cX12_ends 22 = .ok (.ireturn, 1) := dGR_28_c_899.1
theorem dX12_ends_23 : decode cX12_ends 23 = .ok (.aload_n 0, 1) := dGR_28_c_899.2.1
theorem dX12_ends_24 : decode cX12_ends 24 = .ok (.iload_n 2, 1) := dGR_28_c_899.2.2.1
theorem dX12_ends_25 : decode cX12_ends 25 = .ok (.iload_n 3, 1) := dGR_28_c_899.2.2.2.1
theorem dX12_ends_26 : decode cX12_ends 26 = .ok (.invokevirtual 361, 3) := dGR_28_c_899.2.2.2.2.1
theorem dX12_ends_29 : decode cX12_ends 29 = .ok (.istore 4, 2) := dGR_28_c_899.2.2.2.2.2.1
theorem dX12_ends_31 : decode cX12_ends 31 = .ok (.iload 4, 2) := dGR_28_c_899.2.2.2.2.2.2.1
theorem dX12_ends_33 : decode cX12_ends 33 = .ok (.ifCond .le 12, 3) := dGR_28_c_899.2.2.2.2.2.2.2.1
theorem dX12_ends_36 : decode cX12_ends 36 = .ok (.aload_n 0, 1) := dGR_28_c_899.2.2.2.2.2.2.2.2.1
theorem dX12_ends_37 : decode cX12_ends 37 = .ok (.iload 4, 2) := dGR_28_c_899.2.2.2.2.2.2.2.2.2.1
theorem dX12_ends_39 : decode cX12_ends 39 = .ok (.invokevirtual 123, 3) := dGR_28_c_899.2.2.2.2.2.2.2.2.2.2.1
theorem dX12_ends_42 : decode cX12_ends 42 = .ok (.goto 14, 3) := dGR_28_c_899.2.2.2.2.2.2.2.2.2.2.2
set_option maxRecDepth 100000 in
theorem dGR_28_c_900 : (decode cX12_ends 45 = .ok (.aload_n 0, 1)) ∧ (decode cX12_ends 46 = .ok (.aload_n 0, 1)) ∧ (decode cX12_ends 47 = .ok (.iload_n 1, 1)) ∧ (decode cX12_ends 48 = .ok (.iload_n 2, 1)) ∧ (decode cX12_ends 49 = .ok (.iload_n 3, 1)) ∧ (decode cX12_ends 50 = .ok (.invokevirtual 364, 3)) ∧ (decode cX12_ends 53 = .ok (.invokevirtual 127, 3)) ∧ (decode cX12_ends 56 = .ok (.ireturn, 1)) := by decide +kernel
theorem dX12_ends_45 : decode cX12_ends 45 = .ok (.aload_n 0, 1) := dGR_28_c_900.1
theorem dX12_ends_46 : decode cX12_ends 46 = .ok (.aload_n 0, 1) := dGR_28_c_900.2.1
theorem dX12_ends_47 : decode cX12_ends 47 = .ok (.iload_n 1, 1) := dGR_28_c_900.2.2.1
theorem dX12_ends_48 : decode cX12_ends 48 = .ok (.iload_n 2, 1) := dGR_28_c_900.2.2.2.1
theorem dX12_ends_49 : decode cX12_ends 49 = .ok (.iload_n 3, 1) := dGR_28_c_900.2.2.2.2.1
theorem dX12_ends_50 : decode cX12_ends 50 = .ok (.invokevirtual 364, 3) := dGR_28_c_900.2.2.2.2.2.1
theorem dX12_ends_53 : decode cX12_ends 53 = .ok (.invokevirtual 127, 3) := dGR_28_c_900.2.2.2.2.2.2.1
theorem dX12_ends_56 : decode cX12_ends 56 = .ok (.ireturn, 1) := dGR_28_c_900.2.2.2.2.2.2.2
set_option maxRecDepth 100000 in
theorem dGR_28_c_901 : (decode cX12_laysWays 0 = .ok (.iconst 0, 1)) ∧ (decode cX12_laysWays 1 = .ok (.istore 4, 2)) ∧ (decode cX12_laysWays 3 = .ok (.iload 4, 2)) ∧ (decode cX12_laysWays 5 = .ok (.bipush 9, 2)) ∧ (decode cX12_laysWays 7 = .ok (.if_icmp .ge 37, 3)) ∧ (decode cX12_laysWays 10 = .ok (.aload_n 0, 1)) ∧ (decode cX12_laysWays 11 = .ok (.getfield 68, 3)) ∧ (decode cX12_laysWays 14 = .ok (.iload 4, 2)) ∧ (decode cX12_laysWays 16 = .ok (.aload_n 0, 1)) ∧ (decode cX12_laysWays 17 = .ok (.getfield 44, 3)) ∧ (decode cX12_laysWays 20 = .ok (.iload_n 1, 1)) ∧ (decode cX12_laysWays 21 = .ok (.iload_n 2, 1)) := by decide +kernel
theorem dX12_laysWays_0 : decode cX12_laysWays 0 = .ok (.iconst 0, 1) := dGR_28_c_901.1
theorem dX12_laysWays_1 : decode cX12_laysWays 1 = .ok (.istore 4, 2) := dGR_28_c_901.2.1
theorem dX12_laysWays_3 : decode cX12_laysWays 3 = .ok (.iload 4, 2) := dGR_28_c_901.2.2.1
theorem dX12_laysWays_5 : decode cX12_laysWays 5 = .ok (.bipush 9, 2) := dGR_28_c_901.2.2.2.1
theorem dX12_laysWays_7 : decode cX12_laysWays 7 = .ok (.if_icmp .ge 37, 3) := dGR_28_c_901.2.2.2.2.1
theorem dX12_laysWays_10 : decode cX12_laysWays 10 = .ok (.aload_n 0, 1) := dGR_28_c_901.2.2.2.2.2.1
theorem dX12_laysWays_11 : decode cX12_laysWays 11 = .ok (.getfield 68, 3) := dGR_28_c_901.2.2.2.2.2.2.1
theorem dX12_laysWays_14 : decode cX12_laysWays 14 = .ok (.iload 4, 2) := dGR_28_c_901.2.2.2.2.2.2.2.1
theorem dX12_laysWays_16 : decode cX12_laysWays 16 = .ok (.aload_n 0, 1) := dGR_28_c_901.2.2.2.2.2.2.2.2.1
theorem dX12_laysWays_17 : decode cX12_laysWays 17 = .ok (.getfield 44, 3) := dGR_28_c_901.2.2.2.2.2.2.2.2.2.1
theorem dX12_laysWays_20 : decode cX12_laysWays 20 = .ok (.iload_n 1, 1) := dGR_28_c_901.2.2.2.2.2.2.2.2.2.2.1
theorem dX12_laysWays_21 : decode cX12_laysWays 21 = .ok (.iload_n 2, 1) := dGR_28_c_901.2.2.2.2.2.2.2.2.2.2.2
set_option maxRecDepth 100000 in
theorem dGR_28_c_902 : (decode cX12_laysWays 22 = .ok (.iconst 0, 1)) ∧ (decode cX12_laysWays 23 = .ok (.iconst 0, 1)) ∧ (decode cX12_laysWays 24 = .ok (.invokestatic 319, 3)) ∧ (decode cX12_laysWays 27 = .ok (.iload 4, 2)) ∧ (decode cX12_laysWays 29 = .ok (.iadd, 1)) ∧ (decode cX12_laysWays 30 = .ok (.iaload, 1)) ∧ (decode cX12_laysWays 31 = .ok (.iload_n 3, 1)) ∧ (decode cX12_laysWays 32 = .ok (.iand, 1)) ∧ (decode cX12_laysWays 33 = .ok (.invokestatic 367, 3)) ∧ (decode cX12_laysWays 36 = .ok (.i2l, 1)) ∧ (decode cX12_laysWays 37 = .ok (.lastore, 1)) ∧ (decode cX12_laysWays 38 = .ok (.iinc 4 1, 3)) := by decide +kernel
theorem dX12_laysWays_22 : decode cX12_laysWays 22 = .ok (.iconst 0, 1) := dGR_28_c_902.1
theorem dX12_laysWays_23 : decode cX12_laysWays 23 = .ok (.iconst 0, 1) := dGR_28_c_902.2.1
theorem dX12_laysWays_24 : decode cX12_laysWays 24 = .ok (.invokestatic 319, 3) := dGR_28_c_902.2.2.1
theorem dX12_laysWays_27 : decode cX12_laysWays 27 = .ok (.iload 4, 2) := dGR_28_c_902.2.2.2.1
theorem dX12_laysWays_29 : decode cX12_laysWays 29 = .ok (.iadd, 1) := dGR_28_c_902.2.2.2.2.1
theorem dX12_laysWays_30 : decode cX12_laysWays 30 = .ok (.iaload, 1) := dGR_28_c_902.2.2.2.2.2.1
theorem dX12_laysWays_31 : decode cX12_laysWays 31 = .ok (.iload_n 3, 1) := dGR_28_c_902.2.2.2.2.2.2.1
theorem dX12_laysWays_32 : decode cX12_laysWays 32 = .ok (.iand, 1) := dGR_28_c_902.2.2.2.2.2.2.2.1
theorem dX12_laysWays_33 : decode cX12_laysWays 33 = .ok (.invokestatic 367, 3) := dGR_28_c_902.2.2.2.2.2.2.2.2.1
theorem dX12_laysWays_36 : decode cX12_laysWays 36 = .ok (.i2l, 1) := dGR_28_c_902.2.2.2.2.2.2.2.2.2.1
theorem dX12_laysWays_37 : decode cX12_laysWays 37 = .ok (.lastore, 1) := dGR_28_c_902.2.2.2.2.2.2.2.2.2.2.1
theorem dX12_laysWays_38 : decode cX12_laysWays 38 = .ok (.iinc 4 1, 3) := dGR_28_c_902.2.2.2.2.2.2.2.2.2.2.2
theorem dX12_laysWays_41 : decode cX12_laysWays 41 = .ok (.goto (-38), 3) := by decide +kernel
theorem dX12_laysWays_44 : decode cX12_laysWays 44 = .ok (.return_, 1) := by decide +kernel
abbrev f_c_X12_laysWays : List (Nat × Int) := [(79, -1)]
set_option maxHeartbeats 4000000 in
set_option maxRecDepth 100000 in
theorem c_X12_laysWays (G : KG) (l : Launch) (M : Mem) (a1 : Int) (a2 : Int) (a3 : Int) (hI_M : Inv true M) (hpre : -2147483648 ≤ a1 ∧ a1 ≤ 2147483647 ∧ -2147483648 ≤ a2 ∧ a2 ≤ 2147483647 ∧ -2147483648 ≤ a3 ∧ a3 ≤ 2147483647 ∧ 0 ≤ a1 ∧ a1 ≤ 2 ∧ 0 ≤ a2 ∧ a2 ≤ 5) : KC true G l yX12_laysWays cX12_laysWays 5 none (1, 23) [vR G 163, vI a1, vI a2, vI a3] M (fun A => kQv true G A (fun (N : Mem) => Inv true N ∧ Fr f_c_X12_laysWays M N)) := by
  refine kx_met (lo := [some (vR G 163), some (vI a1), some (vI a2), some (vI a3), none]) (by decide) (Nat.le_of_ble_eq_true rfl) rfl ?_
  intro X F hQ
  have hF_M : Fr f_c_X12_laysWays M M := Fr.rf _ _
  refine kx_iconst 1 F dX12_laysWays_0 rfl ?_
  refine kx_istore 3 F 4 (lo' := [some (vR G 163), some (vI a1), some (vI a2), some (vI a3), some (vI 0)]) dX12_laysWays_1 (by decide) rfl rfl rfl ?_
  have L_94 : ∀ (n_95 : Nat) (x4_92 : Int) (N_93 : Mem), Inv true N_93 → Fr f_c_X12_laysWays M N_93 → 0 ≤ x4_92 ∧ x4_92 ≤ 9 → (9 - (x4_92)).toNat = n_95 → KJ true G X N_93 3 [some (vR G 163), some (vI a1), some (vI a2), some (vI a3), some (vI x4_92)] [] := by
    intro n_95
    refine Nat.strongRecOn n_95 ?_
    intro n_95 ih_96 x4_92 N_93 hI_N_93 hF_N_93 h_97 hm_98
    refine kx_iload 5 F 4 dX12_laysWays_3 rfl rfl ?_
    refine kx_bipush 7 F dX12_laysWays_5 (by decide) rfl ?_
    refine kx_icmp_ge 10 F 44 dX12_laysWays_7 (by decide) rfl (by omega) (by decide) (fun h_99 => ?_) (fun h_99 => ?_)
    · exact kx_vret F hQ ⟨hI_N_93, hF_N_93⟩ dX12_laysWays_44
    · refine kx_aload_n 11 F 0 dX12_laysWays_10 rfl rfl rfl ?_
      refine kx_getr 14 F fl_X12_68 kd_163 rfl rfl (j := 28) rfl dX12_laysWays_11 (v := (M 163 28)) (by rw [Fr.e hF_N_93 kd_163 _ rfl]) rfl ?_
      have hk_100 : kd (M 163 28) = 79 := Inv.r hI_M kd_163 rfl 28 rfl rfl
      refine kx_iload 16 F 4 dX12_laysWays_14 rfl rfl ?_
      refine kx_aload_n 17 F 0 dX12_laysWays_16 rfl rfl rfl ?_
      refine kx_getr 20 F fl_X12_44 kd_163 rfl rfl (j := 20) rfl dX12_laysWays_17 (v := 171) (uq_171 (Inv.r hI_N_93 kd_163 rfl 20 rfl rfl)) rfl ?_
      refine kx_iload_n 21 F 1 dX12_laysWays_20 rfl rfl rfl ?_
      refine kx_iload_n 22 F 2 dX12_laysWays_21 rfl rfl rfl ?_
      refine kx_iconst 23 F dX12_laysWays_22 rfl ?_
      refine kx_iconst 24 F dX12_laysWays_23 rfl ?_
      refine kx_Si 27 F (As := [vI a1, vI a2, vI 0, vI 0]) (st := [vR G 171, vI x4_92, vR G (M 163 28)]) sd_X12_319 (c_X12_placeOf G l N_93 a1 a2 0 0 hI_N_93 (by omega)) ⟨by decide, by decide⟩ rfl rfl (Nat.le_of_ble_eq_true rfl) dX12_laysWays_24 rfl ?_
      intro r_101 N_102 q_103
      obtain ⟨rfl, q_103c⟩ := q_103
      refine kx_topi (e' := 54 * a1 + 9 * a2) (by omega) ?_
      refine kx_iload 29 F 4 dX12_laysWays_27 rfl rfl ?_
      refine kx_iadd 30 F (v := 54 * a1 + 9 * a2 + x4_92) dX12_laysWays_29 rfl rfl ?_
      refine kx_iald 31 F kd_171 rfl rfl (by omega) (by decide) dX12_laysWays_30 (v := (M 171 (54 * a1 + 9 * a2 + x4_92))) (by rw [Fr.e hF_N_93 kd_171 _ rfl]) rfl ?_
      have h_104 := Inv.g hI_M kd_171 rfl (54 * a1 + 9 * a2 + x4_92) (a := 0) (b := 15) rfl rfl
      refine kx_iload_n 32 F 3 dX12_laysWays_31 rfl rfl rfl ?_
      refine kx_iand 33 F (v := (zand (M 171 (54 * a1 + 9 * a2 + x4_92)) a3)) dX12_laysWays_32 rfl rfl ?_
      have h_105 := zand_l (a := (M 171 (54 * a1 + 9 * a2 + x4_92))) (b := a3) (by omega)
      refine kx_Si 36 F (As := [vI (zand (M 171 (54 * a1 + 9 * a2 + x4_92)) a3)]) (st := [vI x4_92, vR G (M 163 28)]) sd_X12_367 (c_X12_bits G l N_93 (zand (M 171 (54 * a1 + 9 * a2 + x4_92)) a3) hI_N_93 (by omega)) ⟨by decide, by decide⟩ rfl rfl (Nat.le_of_ble_eq_true rfl) dX12_laysWays_33 rfl ?_
      intro r_106 N_107 q_108
      obtain ⟨rfl, q_108c⟩ := q_108
      refine kx_i2l 37 F dX12_laysWays_36 (by omega) rfl ?_
      refine kx_last 38 F hk_100 rfl rfl (by omega) (by decide) dX12_laysWays_37 rfl ?_
      intro N_109 hM_N_109
      have hI_N_109 : Inv true N_109 := Inv.u hI_N_93 hM_N_109 hk_100 (a := (-9223372036854775808)) (b := 9223372036854775807) rfl rfl rfl (by omega)
      have hF_N_109 : Fr f_c_X12_laysWays M N_109 := Fr.u hF_N_93 hM_N_109 hk_100 rfl
      refine kx_iinc 41 F 4 (v := x4_92 + 1) (lo' := [some (vR G 163), some (vI a1), some (vI a2), some (vI a3), some (vI (x4_92 + 1))]) dX12_laysWays_38 rfl (by omega) (by decide) rfl rfl rfl ?_
      refine kx_goto 3 F dX12_laysWays_41 (by decide) ?_
      exact ih_96 _ (by omega) (x4_92 + 1) N_109 hI_N_109 hF_N_109 (by omega) rfl
  exact L_94 _ 0 M hI_M hF_M (by omega) rfl
set_option maxRecDepth 100000 in
theorem dGR_28_c_903 : (decode cX12_laysOver 0 = .ok (.iconst 0, 1)) ∧ (decode cX12_laysOver 1 = .ok (.istore 5, 2)) ∧ (decode cX12_laysOver 3 = .ok (.iload 5, 2)) ∧ (decode cX12_laysOver 5 = .ok (.bipush 9, 2)) ∧ (decode cX12_laysOver 7 = .ok (.if_icmp .ge 17, 3)) ∧ (decode cX12_laysOver 10 = .ok (.aload_n 0, 1)) ∧ (decode cX12_laysOver 11 = .ok (.getfield 65, 3)) ∧ (decode cX12_laysOver 14 = .ok (.iload 5, 2)) ∧ (decode cX12_laysOver 16 = .ok (.lconst 0, 1)) ∧ (decode cX12_laysOver 17 = .ok (.lastore, 1)) ∧ (decode cX12_laysOver 18 = .ok (.iinc 5 1, 3)) ∧ (decode cX12_laysOver 21 = .ok (.goto (-18), 3)) := by decide +kernel
theorem dX12_laysOver_0 : decode cX12_laysOver 0 = .ok (.iconst 0, 1) := dGR_28_c_903.1
theorem dX12_laysOver_1 : decode cX12_laysOver 1 = .ok (.istore 5, 2) := dGR_28_c_903.2.1
theorem dX12_laysOver_3 : decode cX12_laysOver 3 = .ok (.iload 5, 2) := dGR_28_c_903.2.2.1
theorem dX12_laysOver_5 : decode cX12_laysOver 5 = .ok (.bipush 9, 2) := dGR_28_c_903.2.2.2.1
theorem dX12_laysOver_7 : decode cX12_laysOver 7 = .ok (.if_icmp .ge 17, 3) := dGR_28_c_903.2.2.2.2.1
theorem dX12_laysOver_10 : decode cX12_laysOver 10 = .ok (.aload_n 0, 1) := dGR_28_c_903.2.2.2.2.2.1
theorem dX12_laysOver_11 : decode cX12_laysOver 11 = .ok (.getfield 65, 3) := dGR_28_c_903.2.2.2.2.2.2.1
theorem dX12_laysOver_14 : decode cX12_laysOver 14 = .ok (.iload 5, 2) := dGR_28_c_903.2.2.2.2.2.2.2.1
theorem dX12_laysOver_16 : decode cX12_laysOver 16 = .ok (.lconst 0, 1) := dGR_28_c_903.2.2.2.2.2.2.2.2.1
theorem dX12_laysOver_17 : decode cX12_laysOver 17 = .ok (.lastore, 1) := dGR_28_c_903.2.2.2.2.2.2.2.2.2.1
theorem dX12_laysOver_18 : decode cX12_laysOver 18 = .ok (.iinc 5 1, 3) := dGR_28_c_903.2.2.2.2.2.2.2.2.2.2.1
theorem dX12_laysOver_21 : decode cX12_laysOver 21 = .ok (.goto (-18), 3) := dGR_28_c_903.2.2.2.2.2.2.2.2.2.2.2
set_option maxRecDepth 100000 in
theorem dGR_28_c_904 : (decode cX12_laysOver 24 = .ok (.iconst 0, 1)) ∧ (decode cX12_laysOver 25 = .ok (.istore 5, 2)) ∧ (decode cX12_laysOver 27 = .ok (.iload 5, 2)) ∧ (decode cX12_laysOver 29 = .ok (.bipush 27, 2)) ∧ (decode cX12_laysOver 31 = .ok (.if_icmp .ge 115, 3)) ∧ (decode cX12_laysOver 34 = .ok (.iload 5, 2)) ∧ (decode cX12_laysOver 36 = .ok (.iconst 3, 1)) ∧ (decode cX12_laysOver 37 = .ok (.idiv, 1)) ∧ (decode cX12_laysOver 38 = .ok (.iconst 3, 1)) ∧ (decode cX12_laysOver 39 = .ok (.irem, 1)) ∧ (decode cX12_laysOver 40 = .ok (.istore 6, 2)) ∧ (decode cX12_laysOver 42 = .ok (.iload 5, 2)) := by decide +kernel
theorem dX12_laysOver_24 : decode cX12_laysOver 24 = .ok (.iconst 0, 1) := dGR_28_c_904.1
theorem dX12_laysOver_25 : decode cX12_laysOver 25 = .ok (.istore 5, 2) := dGR_28_c_904.2.1
theorem dX12_laysOver_27 : decode cX12_laysOver 27 = .ok (.iload 5, 2) := dGR_28_c_904.2.2.1
theorem dX12_laysOver_29 : decode cX12_laysOver 29 = .ok (.bipush 27, 2) := dGR_28_c_904.2.2.2.1
theorem dX12_laysOver_31 : decode cX12_laysOver 31 = .ok (.if_icmp .ge 115, 3) := dGR_28_c_904.2.2.2.2.1
theorem dX12_laysOver_34 : decode cX12_laysOver 34 = .ok (.iload 5, 2) := dGR_28_c_904.2.2.2.2.2.1
theorem dX12_laysOver_36 : decode cX12_laysOver 36 = .ok (.iconst 3, 1) := dGR_28_c_904.2.2.2.2.2.2.1
theorem dX12_laysOver_37 : decode cX12_laysOver 37 = .ok (.idiv, 1) := dGR_28_c_904.2.2.2.2.2.2.2.1
theorem dX12_laysOver_38 : decode cX12_laysOver 38 = .ok (.iconst 3, 1) := dGR_28_c_904.2.2.2.2.2.2.2.2.1
theorem dX12_laysOver_39 : decode cX12_laysOver 39 = .ok (.irem, 1) := dGR_28_c_904.2.2.2.2.2.2.2.2.2.1
theorem dX12_laysOver_40 : decode cX12_laysOver 40 = .ok (.istore 6, 2) := dGR_28_c_904.2.2.2.2.2.2.2.2.2.2.1
theorem dX12_laysOver_42 : decode cX12_laysOver 42 = .ok (.iload 5, 2) := dGR_28_c_904.2.2.2.2.2.2.2.2.2.2.2
set_option maxRecDepth 100000 in
theorem dGR_28_c_905 : (decode cX12_laysOver 44 = .ok (.iconst 3, 1)) ∧ (decode cX12_laysOver 45 = .ok (.irem, 1)) ∧ (decode cX12_laysOver 46 = .ok (.istore 7, 2)) ∧ (decode cX12_laysOver 48 = .ok (.iconst 0, 1)) ∧ (decode cX12_laysOver 49 = .ok (.istore 8, 2)) ∧ (decode cX12_laysOver 51 = .ok (.iload 8, 2)) ∧ (decode cX12_laysOver 53 = .ok (.iconst 3, 1)) ∧ (decode cX12_laysOver 54 = .ok (.if_icmp .ge 86, 3)) ∧ (decode cX12_laysOver 57 = .ok (.aload_n 0, 1)) ∧ (decode cX12_laysOver 58 = .ok (.getfield 44, 3)) ∧ (decode cX12_laysOver 61 = .ok (.iload_n 1, 1)) ∧ (decode cX12_laysOver 62 = .ok (.iload_n 3, 1)) := by decide +kernel
theorem dX12_laysOver_44 : decode cX12_laysOver 44 = .ok (.iconst 3, 1) := dGR_28_c_905.1
theorem dX12_laysOver_45 : decode cX12_laysOver 45 = .ok (.irem, 1) := dGR_28_c_905.2.1
theorem dX12_laysOver_46 : decode cX12_laysOver 46 = .ok (.istore 7, 2) := dGR_28_c_905.2.2.1
theorem dX12_laysOver_48 : decode cX12_laysOver 48 = .ok (.iconst 0, 1) := dGR_28_c_905.2.2.2.1
theorem dX12_laysOver_49 : decode cX12_laysOver 49 = .ok (.istore 8, 2) := dGR_28_c_905.2.2.2.2.1
theorem dX12_laysOver_51 : decode cX12_laysOver 51 = .ok (.iload 8, 2) := dGR_28_c_905.2.2.2.2.2.1
theorem dX12_laysOver_53 : decode cX12_laysOver 53 = .ok (.iconst 3, 1) := dGR_28_c_905.2.2.2.2.2.2.1
theorem dX12_laysOver_54 : decode cX12_laysOver 54 = .ok (.if_icmp .ge 86, 3) := dGR_28_c_905.2.2.2.2.2.2.2.1
theorem dX12_laysOver_57 : decode cX12_laysOver 57 = .ok (.aload_n 0, 1) := dGR_28_c_905.2.2.2.2.2.2.2.2.1
theorem dX12_laysOver_58 : decode cX12_laysOver 58 = .ok (.getfield 44, 3) := dGR_28_c_905.2.2.2.2.2.2.2.2.2.1
theorem dX12_laysOver_61 : decode cX12_laysOver 61 = .ok (.iload_n 1, 1) := dGR_28_c_905.2.2.2.2.2.2.2.2.2.2.1
theorem dX12_laysOver_62 : decode cX12_laysOver 62 = .ok (.iload_n 3, 1) := dGR_28_c_905.2.2.2.2.2.2.2.2.2.2.2
set_option maxRecDepth 100000 in
theorem dGR_28_c_906 : (decode cX12_laysOver 63 = .ok (.iload 5, 2)) ∧ (decode cX12_laysOver 65 = .ok (.bipush 9, 2)) ∧ (decode cX12_laysOver 67 = .ok (.idiv, 1)) ∧ (decode cX12_laysOver 68 = .ok (.iload 6, 2)) ∧ (decode cX12_laysOver 70 = .ok (.invokestatic 319, 3)) ∧ (decode cX12_laysOver 73 = .ok (.iaload, 1)) ∧ (decode cX12_laysOver 74 = .ok (.aload_n 0, 1)) ∧ (decode cX12_laysOver 75 = .ok (.getfield 44, 3)) ∧ (decode cX12_laysOver 78 = .ok (.iload_n 1, 1)) ∧ (decode cX12_laysOver 79 = .ok (.iload 4, 2)) ∧ (decode cX12_laysOver 81 = .ok (.iload 7, 2)) ∧ (decode cX12_laysOver 83 = .ok (.iload 8, 2)) := by decide +kernel
theorem dX12_laysOver_63 : decode cX12_laysOver 63 = .ok (.iload 5, 2) := dGR_28_c_906.1
theorem dX12_laysOver_65 : decode cX12_laysOver 65 = .ok (.bipush 9, 2) := dGR_28_c_906.2.1
theorem dX12_laysOver_67 : decode cX12_laysOver 67 = .ok (.idiv, 1) := dGR_28_c_906.2.2.1
theorem dX12_laysOver_68 : decode cX12_laysOver 68 = .ok (.iload 6, 2) := dGR_28_c_906.2.2.2.1
theorem dX12_laysOver_70 : decode cX12_laysOver 70 = .ok (.invokestatic 319, 3) := dGR_28_c_906.2.2.2.2.1
theorem dX12_laysOver_73 : decode cX12_laysOver 73 = .ok (.iaload, 1) := dGR_28_c_906.2.2.2.2.2.1
theorem dX12_laysOver_74 : decode cX12_laysOver 74 = .ok (.aload_n 0, 1) := dGR_28_c_906.2.2.2.2.2.2.1
theorem dX12_laysOver_75 : decode cX12_laysOver 75 = .ok (.getfield 44, 3) := dGR_28_c_906.2.2.2.2.2.2.2.1
theorem dX12_laysOver_78 : decode cX12_laysOver 78 = .ok (.iload_n 1, 1) := dGR_28_c_906.2.2.2.2.2.2.2.2.1
theorem dX12_laysOver_79 : decode cX12_laysOver 79 = .ok (.iload 4, 2) := dGR_28_c_906.2.2.2.2.2.2.2.2.2.1
theorem dX12_laysOver_81 : decode cX12_laysOver 81 = .ok (.iload 7, 2) := dGR_28_c_906.2.2.2.2.2.2.2.2.2.2.1
theorem dX12_laysOver_83 : decode cX12_laysOver 83 = .ok (.iload 8, 2) := dGR_28_c_906.2.2.2.2.2.2.2.2.2.2.2
set_option maxRecDepth 100000 in
theorem dGR_28_c_907 : (decode cX12_laysOver 85 = .ok (.invokestatic 319, 3)) ∧ (decode cX12_laysOver 88 = .ok (.iaload, 1)) ∧ (decode cX12_laysOver 89 = .ok (.iand, 1)) ∧ (decode cX12_laysOver 90 = .ok (.bipush 7, 2)) ∧ (decode cX12_laysOver 92 = .ok (.iand, 1)) ∧ (decode cX12_laysOver 93 = .ok (.istore 9, 2)) ∧ (decode cX12_laysOver 95 = .ok (.aload_n 0, 1)) ∧ (decode cX12_laysOver 96 = .ok (.getfield 65, 3)) ∧ (decode cX12_laysOver 99 = .ok (.iconst 3, 1)) ∧ (decode cX12_laysOver 100 = .ok (.iload 5, 2)) ∧ (decode cX12_laysOver 102 = .ok (.bipush 9, 2)) ∧ (decode cX12_laysOver 104 = .ok (.idiv, 1)) := by decide +kernel
theorem dX12_laysOver_85 : decode cX12_laysOver 85 = .ok (.invokestatic 319, 3) := dGR_28_c_907.1
theorem dX12_laysOver_88 : decode cX12_laysOver 88 = .ok (.iaload, 1) := dGR_28_c_907.2.1
theorem dX12_laysOver_89 : decode cX12_laysOver 89 = .ok (.iand, 1) := dGR_28_c_907.2.2.1
theorem dX12_laysOver_90 : decode cX12_laysOver 90 = .ok (.bipush 7, 2) := dGR_28_c_907.2.2.2.1
theorem dX12_laysOver_92 : decode cX12_laysOver 92 = .ok (.iand, 1) := dGR_28_c_907.2.2.2.2.1
theorem dX12_laysOver_93 : decode cX12_laysOver 93 = .ok (.istore 9, 2) := dGR_28_c_907.2.2.2.2.2.1
theorem dX12_laysOver_95 : decode cX12_laysOver 95 = .ok (.aload_n 0, 1) := dGR_28_c_907.2.2.2.2.2.2.1
theorem dX12_laysOver_96 : decode cX12_laysOver 96 = .ok (.getfield 65, 3) := dGR_28_c_907.2.2.2.2.2.2.2.1
theorem dX12_laysOver_99 : decode cX12_laysOver 99 = .ok (.iconst 3, 1) := dGR_28_c_907.2.2.2.2.2.2.2.2.1
theorem dX12_laysOver_100 : decode cX12_laysOver 100 = .ok (.iload 5, 2) := dGR_28_c_907.2.2.2.2.2.2.2.2.2.1
theorem dX12_laysOver_102 : decode cX12_laysOver 102 = .ok (.bipush 9, 2) := dGR_28_c_907.2.2.2.2.2.2.2.2.2.2.1
theorem dX12_laysOver_104 : decode cX12_laysOver 104 = .ok (.idiv, 1) := dGR_28_c_907.2.2.2.2.2.2.2.2.2.2.2
set_option maxRecDepth 100000 in
theorem dGR_28_c_908 : (decode cX12_laysOver 105 = .ok (.imul, 1)) ∧ (decode cX12_laysOver 106 = .ok (.iload 8, 2)) ∧ (decode cX12_laysOver 108 = .ok (.iadd, 1)) ∧ (decode cX12_laysOver 109 = .ok (.dup2, 1)) ∧ (decode cX12_laysOver 110 = .ok (.laload, 1)) ∧ (decode cX12_laysOver 111 = .ok (.iload 9, 2)) ∧ (decode cX12_laysOver 113 = .ok (.invokestatic 367, 3)) ∧ (decode cX12_laysOver 116 = .ok (.i2l, 1)) ∧ (decode cX12_laysOver 117 = .ok (.aload_n 0, 1)) ∧ (decode cX12_laysOver 118 = .ok (.getfield 62, 3)) ∧ (decode cX12_laysOver 121 = .ok (.iload_n 2, 1)) ∧ (decode cX12_laysOver 122 = .ok (.iconst 3, 1)) := by decide +kernel
theorem dX12_laysOver_105 : decode cX12_laysOver 105 = .ok (.imul, 1) := dGR_28_c_908.1
theorem dX12_laysOver_106 : decode cX12_laysOver 106 = .ok (.iload 8, 2) := dGR_28_c_908.2.1
theorem dX12_laysOver_108 : decode cX12_laysOver 108 = .ok (.iadd, 1) := dGR_28_c_908.2.2.1
theorem dX12_laysOver_109 : decode cX12_laysOver 109 = .ok (.dup2, 1) := dGR_28_c_908.2.2.2.1
theorem dX12_laysOver_110 : decode cX12_laysOver 110 = .ok (.laload, 1) := dGR_28_c_908.2.2.2.2.1
theorem dX12_laysOver_111 : decode cX12_laysOver 111 = .ok (.iload 9, 2) := dGR_28_c_908.2.2.2.2.2.1
theorem dX12_laysOver_113 : decode cX12_laysOver 113 = .ok (.invokestatic 367, 3) := dGR_28_c_908.2.2.2.2.2.2.1
theorem dX12_laysOver_116 : decode cX12_laysOver 116 = .ok (.i2l, 1) := dGR_28_c_908.2.2.2.2.2.2.2.1
theorem dX12_laysOver_117 : decode cX12_laysOver 117 = .ok (.aload_n 0, 1) := dGR_28_c_908.2.2.2.2.2.2.2.2.1
theorem dX12_laysOver_118 : decode cX12_laysOver 118 = .ok (.getfield 62, 3) := dGR_28_c_908.2.2.2.2.2.2.2.2.2.1
theorem dX12_laysOver_121 : decode cX12_laysOver 121 = .ok (.iload_n 2, 1) := dGR_28_c_908.2.2.2.2.2.2.2.2.2.2.1
theorem dX12_laysOver_122 : decode cX12_laysOver 122 = .ok (.iconst 3, 1) := dGR_28_c_908.2.2.2.2.2.2.2.2.2.2.2
set_option maxRecDepth 100000 in
theorem dGR_28_c_909 : (decode cX12_laysOver 123 = .ok (.iload 6, 2)) ∧ (decode cX12_laysOver 125 = .ok (.imul, 1)) ∧ (decode cX12_laysOver 126 = .ok (.iadd, 1)) ∧ (decode cX12_laysOver 127 = .ok (.iload 7, 2)) ∧ (decode cX12_laysOver 129 = .ok (.iadd, 1)) ∧ (decode cX12_laysOver 130 = .ok (.laload, 1)) ∧ (decode cX12_laysOver 131 = .ok (.lmul, 1)) ∧ (decode cX12_laysOver 132 = .ok (.ladd, 1)) ∧ (decode cX12_laysOver 133 = .ok (.lastore, 1)) ∧ (decode cX12_laysOver 134 = .ok (.iinc 8 1, 3)) ∧ (decode cX12_laysOver 137 = .ok (.goto (-86), 3)) ∧ (decode cX12_laysOver 140 = .ok (.iinc 5 1, 3)) := by decide +kernel
theorem dX12_laysOver_123 : decode cX12_laysOver 123 = .ok (.iload 6, 2) := dGR_28_c_909.1
theorem dX12_laysOver_125 : decode cX12_laysOver 125 = .ok (.imul, 1) := dGR_28_c_909.2.1
theorem dX12_laysOver_126 : decode cX12_laysOver 126 = .ok (.iadd, 1) := dGR_28_c_909.2.2.1
theorem dX12_laysOver_127 : decode cX12_laysOver 127 = .ok (.iload 7, 2) := dGR_28_c_909.2.2.2.1
theorem dX12_laysOver_129 : decode cX12_laysOver 129 = .ok (.iadd, 1) := dGR_28_c_909.2.2.2.2.1
theorem dX12_laysOver_130 : decode cX12_laysOver 130 = .ok (.laload, 1) := dGR_28_c_909.2.2.2.2.2.1
theorem dX12_laysOver_131 : decode cX12_laysOver 131 = .ok (.lmul, 1) := dGR_28_c_909.2.2.2.2.2.2.1
theorem dX12_laysOver_132 : decode cX12_laysOver 132 = .ok (.ladd, 1) := dGR_28_c_909.2.2.2.2.2.2.2.1
theorem dX12_laysOver_133 : decode cX12_laysOver 133 = .ok (.lastore, 1) := dGR_28_c_909.2.2.2.2.2.2.2.2.1
theorem dX12_laysOver_134 : decode cX12_laysOver 134 = .ok (.iinc 8 1, 3) := dGR_28_c_909.2.2.2.2.2.2.2.2.2.1
theorem dX12_laysOver_137 : decode cX12_laysOver 137 = .ok (.goto (-86), 3) := dGR_28_c_909.2.2.2.2.2.2.2.2.2.2.1
theorem dX12_laysOver_140 : decode cX12_laysOver 140 = .ok (.iinc 5 1, 3) := dGR_28_c_909.2.2.2.2.2.2.2.2.2.2.2
theorem dX12_laysOver_143 : decode cX12_laysOver 143 = .ok (.goto (-116), 3) := by decide +kernel
theorem dX12_laysOver_146 : decode cX12_laysOver 146 = .ok (.return_, 1) := by decide +kernel
abbrev f_c_X12_laysOver : List (Nat × Int) := [(79, -1)]
set_option maxHeartbeats 4000000 in
set_option maxRecDepth 100000 in
theorem c_X12_laysOver (G : KG) (l : Launch) (M : Mem) (a1 : Int) (a2 : Int) (a3 : Int) (a4 : Int) (hI_M : Inv true M) (hpre : -2147483648 ≤ a1 ∧ a1 ≤ 2147483647 ∧ -2147483648 ≤ a2 ∧ a2 ≤ 2147483647 ∧ -2147483648 ≤ a3 ∧ a3 ≤ 2147483647 ∧ -2147483648 ≤ a4 ∧ a4 ≤ 2147483647 ∧ 0 ≤ a1 ∧ a1 ≤ 2 ∧ 0 ≤ a2 ∧ a2 ≤ 180 ∧ 0 ≤ a3 ∧ a3 ≤ 5 ∧ 0 ≤ a4 ∧ a4 ≤ 5) : KC true G l yX12_laysOver cX12_laysOver 10 none (1, 23) [vR G 163, vI a1, vI a2, vI a3, vI a4] M (fun A => kQv true G A (fun (N : Mem) => Inv true N ∧ Fr f_c_X12_laysOver M N)) := by
  refine kx_met (lo := [some (vR G 163), some (vI a1), some (vI a2), some (vI a3), some (vI a4), none, none, none, none, none]) (by decide) (Nat.le_of_ble_eq_true rfl) rfl ?_
  intro X F hQ
  have hF_M : Fr f_c_X12_laysOver M M := Fr.rf _ _
  refine kx_iconst 1 F dX12_laysOver_0 rfl ?_
  refine kx_istore 3 F 5 (lo' := [some (vR G 163), some (vI a1), some (vI a2), some (vI a3), some (vI a4), some (vI 0), none, none, none, none]) dX12_laysOver_1 (by decide) rfl rfl rfl ?_
  have L_2096 : ∀ (n_2097 : Nat) (x5_2094 : Int) (N_2095 : Mem), Inv true N_2095 → Fr f_c_X12_laysOver M N_2095 → 0 ≤ x5_2094 ∧ x5_2094 ≤ 9 → (9 - (x5_2094)).toNat = n_2097 → KJ true G X N_2095 3 [some (vR G 163), some (vI a1), some (vI a2), some (vI a3), some (vI a4), some (vI x5_2094), none, none, none, none] [] := by
    intro n_2097
    refine Nat.strongRecOn n_2097 ?_
    intro n_2097 ih_2098 x5_2094 N_2095 hI_N_2095 hF_N_2095 h_2099 hm_2100
    refine kx_iload 5 F 5 dX12_laysOver_3 rfl rfl ?_
    refine kx_bipush 7 F dX12_laysOver_5 (by decide) rfl ?_
    refine kx_icmp_ge 10 F 24 dX12_laysOver_7 (by decide) rfl (by omega) (by decide) (fun h_2101 => ?_) (fun h_2101 => ?_)
    · refine kx_iconst 25 F dX12_laysOver_24 rfl ?_
      refine kx_istore 27 F 5 (lo' := [some (vR G 163), some (vI a1), some (vI a2), some (vI a3), some (vI a4), some (vI 0), none, none, none, none]) dX12_laysOver_25 (by decide) rfl rfl rfl ?_
      have L_3000 : ∀ (n_3001 : Nat) (x5_2998 : Int) (N_2999 : Mem), Inv true N_2999 → Fr f_c_X12_laysOver M N_2999 → 0 ≤ x5_2998 ∧ x5_2998 ≤ 27 → (27 - (x5_2998)).toNat = n_3001 → KJ true G X N_2999 27 [some (vR G 163), some (vI a1), some (vI a2), some (vI a3), some (vI a4), some (vI x5_2998), none, none, none, none] [] := by
        intro n_3001
        refine Nat.strongRecOn n_3001 ?_
        intro n_3001 ih_3002 x5_2998 N_2999 hI_N_2999 hF_N_2999 h_3003 hm_3004
        refine kx_iload 29 F 5 dX12_laysOver_27 rfl rfl ?_
        refine kx_bipush 31 F dX12_laysOver_29 (by decide) rfl ?_
        refine kx_icmp_ge 34 F 146 dX12_laysOver_31 (by decide) rfl (by omega) (by decide) (fun h_3005 => ?_) (fun h_3005 => ?_)
        · exact kx_vret F hQ ⟨hI_N_2999, hF_N_2999⟩ dX12_laysOver_146
        · refine kx_iload 36 F 5 dX12_laysOver_34 rfl rfl ?_
          refine kx_iconst 37 F dX12_laysOver_36 rfl ?_
          refine kx_idiv 38 F (v := (x5_2998 / 3)) dX12_laysOver_37 (by omega) (by decide) rfl rfl ?_
          refine kx_iconst 39 F dX12_laysOver_38 rfl ?_
          refine kx_irem 40 F (v := ((x5_2998 / 3) % 3)) dX12_laysOver_39 (by omega) (by decide) rfl rfl ?_
          refine kx_istore 42 F 6 (lo' := [some (vR G 163), some (vI a1), some (vI a2), some (vI a3), some (vI a4), some (vI x5_2998), some (vI ((x5_2998 / 3) % 3)), none, none, none]) dX12_laysOver_40 (by decide) rfl rfl rfl ?_
          refine kx_iload 44 F 5 dX12_laysOver_42 rfl rfl ?_
          refine kx_iconst 45 F dX12_laysOver_44 rfl ?_
          refine kx_irem 46 F (v := (x5_2998 % 3)) dX12_laysOver_45 (by omega) (by decide) rfl rfl ?_
          refine kx_istore 48 F 7 (lo' := [some (vR G 163), some (vI a1), some (vI a2), some (vI a3), some (vI a4), some (vI x5_2998), some (vI ((x5_2998 / 3) % 3)), some (vI (x5_2998 % 3)), none, none]) dX12_laysOver_46 (by decide) rfl rfl rfl ?_
          refine kx_iconst 49 F dX12_laysOver_48 rfl ?_
          refine kx_istore 51 F 8 (lo' := [some (vR G 163), some (vI a1), some (vI a2), some (vI a3), some (vI a4), some (vI x5_2998), some (vI ((x5_2998 / 3) % 3)), some (vI (x5_2998 % 3)), some (vI 0), none]) dX12_laysOver_49 (by decide) rfl rfl rfl ?_
          have L_3104 : ∀ (n_3105 : Nat) (x8_3102 : Int) (N_3103 : Mem), Inv true N_3103 → Fr f_c_X12_laysOver M N_3103 → 0 ≤ x8_3102 ∧ x8_3102 ≤ 3 → (3 - (x8_3102)).toNat = n_3105 → KJ true G X N_3103 51 [some (vR G 163), some (vI a1), some (vI a2), some (vI a3), some (vI a4), some (vI x5_2998), some (vI ((x5_2998 / 3) % 3)), some (vI (x5_2998 % 3)), some (vI x8_3102), none] [] := by
            intro n_3105
            refine Nat.strongRecOn n_3105 ?_
            intro n_3105 ih_3106 x8_3102 N_3103 hI_N_3103 hF_N_3103 h_3107 hm_3108
            refine kx_iload 53 F 8 dX12_laysOver_51 rfl rfl ?_
            refine kx_iconst 54 F dX12_laysOver_53 rfl ?_
            refine kx_icmp_ge 57 F 140 dX12_laysOver_54 (by decide) rfl (by omega) (by decide) (fun h_3109 => ?_) (fun h_3109 => ?_)
            · refine kx_iinc 143 F 5 (v := x5_2998 + 1) (lo' := [some (vR G 163), some (vI a1), some (vI a2), some (vI a3), some (vI a4), some (vI (x5_2998 + 1)), some (vI ((x5_2998 / 3) % 3)), some (vI (x5_2998 % 3)), some (vI x8_3102), none]) dX12_laysOver_140 rfl (by omega) (by decide) rfl rfl rfl ?_
              refine kx_goto 27 F dX12_laysOver_143 (by decide) ?_
              refine kx_drop 6 (lo' := [some (vR G 163), some (vI a1), some (vI a2), some (vI a3), some (vI a4), some (vI (x5_2998 + 1)), none, some (vI (x5_2998 % 3)), some (vI x8_3102), none]) rfl ?_
              refine kx_drop 7 (lo' := [some (vR G 163), some (vI a1), some (vI a2), some (vI a3), some (vI a4), some (vI (x5_2998 + 1)), none, none, some (vI x8_3102), none]) rfl ?_
              refine kx_drop 8 (lo' := [some (vR G 163), some (vI a1), some (vI a2), some (vI a3), some (vI a4), some (vI (x5_2998 + 1)), none, none, none, none]) rfl ?_
              exact ih_3002 _ (by omega) (x5_2998 + 1) N_3103 hI_N_3103 hF_N_3103 (by omega) rfl
            · refine kx_aload_n 58 F 0 dX12_laysOver_57 rfl rfl rfl ?_
              refine kx_getr 61 F fl_X12_44 kd_163 rfl rfl (j := 20) rfl dX12_laysOver_58 (v := 171) (uq_171 (Inv.r hI_N_3103 kd_163 rfl 20 rfl rfl)) rfl ?_
              refine kx_iload_n 62 F 1 dX12_laysOver_61 rfl rfl rfl ?_
              refine kx_iload_n 63 F 3 dX12_laysOver_62 rfl rfl rfl ?_
              refine kx_iload 65 F 5 dX12_laysOver_63 rfl rfl ?_
              refine kx_bipush 67 F dX12_laysOver_65 (by decide) rfl ?_
              refine kx_idiv 68 F (v := (x5_2998 / 9)) dX12_laysOver_67 (by omega) (by decide) rfl rfl ?_
              refine kx_iload 70 F 6 dX12_laysOver_68 rfl rfl ?_
              refine kx_Si 73 F (As := [vI a1, vI a3, vI (x5_2998 / 9), vI ((x5_2998 / 3) % 3)]) (st := [vR G 171]) sd_X12_319 (c_X12_placeOf G l N_3103 a1 a3 (x5_2998 / 9) ((x5_2998 / 3) % 3) hI_N_3103 (by omega)) ⟨by decide, by decide⟩ rfl rfl (Nat.le_of_ble_eq_true rfl) dX12_laysOver_70 rfl ?_
              intro r_3110 N_3111 q_3112
              obtain ⟨rfl, q_3112c⟩ := q_3112
              refine kx_topi (e' := 54 * a1 + 9 * a3 + 3 * (x5_2998 / 9) + ((x5_2998 / 3) % 3)) (by omega) ?_
              refine kx_iald 74 F kd_171 rfl rfl (by omega) (by decide) dX12_laysOver_73 (v := (M 171 (54 * a1 + 9 * a3 + 3 * (x5_2998 / 9) + ((x5_2998 / 3) % 3)))) (by rw [Fr.e hF_N_3103 kd_171 _ rfl]) rfl ?_
              have h_3113 := Inv.g hI_M kd_171 rfl (54 * a1 + 9 * a3 + 3 * (x5_2998 / 9) + ((x5_2998 / 3) % 3)) (a := 0) (b := 15) rfl rfl
              refine kx_aload_n 75 F 0 dX12_laysOver_74 rfl rfl rfl ?_
              refine kx_getr 78 F fl_X12_44 kd_163 rfl rfl (j := 20) rfl dX12_laysOver_75 (v := 171) (uq_171 (Inv.r hI_N_3103 kd_163 rfl 20 rfl rfl)) rfl ?_
              refine kx_iload_n 79 F 1 dX12_laysOver_78 rfl rfl rfl ?_
              refine kx_iload 81 F 4 dX12_laysOver_79 rfl rfl ?_
              refine kx_iload 83 F 7 dX12_laysOver_81 rfl rfl ?_
              refine kx_iload 85 F 8 dX12_laysOver_83 rfl rfl ?_
              refine kx_Si 88 F (As := [vI a1, vI a4, vI (x5_2998 % 3), vI x8_3102]) (st := [vR G 171, vI (M 171 (54 * a1 + 9 * a3 + 3 * (x5_2998 / 9) + ((x5_2998 / 3) % 3)))]) sd_X12_319 (c_X12_placeOf G l N_3103 a1 a4 (x5_2998 % 3) x8_3102 hI_N_3103 (by omega)) ⟨by decide, by decide⟩ rfl rfl (Nat.le_of_ble_eq_true rfl) dX12_laysOver_85 rfl ?_
              intro r_3114 N_3115 q_3116
              obtain ⟨rfl, q_3116c⟩ := q_3116
              refine kx_topi (e' := 54 * a1 + 9 * a4 + 3 * (x5_2998 % 3) + x8_3102) (by omega) ?_
              refine kx_iald 89 F kd_171 rfl rfl (by omega) (by decide) dX12_laysOver_88 (v := (M 171 (54 * a1 + 9 * a4 + 3 * (x5_2998 % 3) + x8_3102))) (by rw [Fr.e hF_N_3103 kd_171 _ rfl]) rfl ?_
              have h_3117 := Inv.g hI_M kd_171 rfl (54 * a1 + 9 * a4 + 3 * (x5_2998 % 3) + x8_3102) (a := 0) (b := 15) rfl rfl
              refine kx_iand 90 F (v := (zand (M 171 (54 * a1 + 9 * a3 + 3 * (x5_2998 / 9) + ((x5_2998 / 3) % 3))) (M 171 (54 * a1 + 9 * a4 + 3 * (x5_2998 % 3) + x8_3102)))) dX12_laysOver_89 rfl rfl ?_
              have h_3118 := zand_r (a := (M 171 (54 * a1 + 9 * a3 + 3 * (x5_2998 / 9) + ((x5_2998 / 3) % 3)))) (b := (M 171 (54 * a1 + 9 * a4 + 3 * (x5_2998 % 3) + x8_3102))) (by omega)
              refine kx_bipush 92 F dX12_laysOver_90 (by decide) rfl ?_
              refine kx_iand 93 F (v := (zand (zand (M 171 (54 * a1 + 9 * a3 + 3 * (x5_2998 / 9) + ((x5_2998 / 3) % 3))) (M 171 (54 * a1 + 9 * a4 + 3 * (x5_2998 % 3) + x8_3102))) 7)) dX12_laysOver_92 rfl rfl ?_
              have h_3119 := zand_r (a := (zand (M 171 (54 * a1 + 9 * a3 + 3 * (x5_2998 / 9) + ((x5_2998 / 3) % 3))) (M 171 (54 * a1 + 9 * a4 + 3 * (x5_2998 % 3) + x8_3102)))) (b := 7) (by omega)
              refine kx_istore 95 F 9 (lo' := [some (vR G 163), some (vI a1), some (vI a2), some (vI a3), some (vI a4), some (vI x5_2998), some (vI ((x5_2998 / 3) % 3)), some (vI (x5_2998 % 3)), some (vI x8_3102), some (vI (zand (zand (M 171 (54 * a1 + 9 * a3 + 3 * (x5_2998 / 9) + ((x5_2998 / 3) % 3))) (M 171 (54 * a1 + 9 * a4 + 3 * (x5_2998 % 3) + x8_3102))) 7))]) dX12_laysOver_93 (by decide) rfl rfl rfl ?_
              refine kx_aload_n 96 F 0 dX12_laysOver_95 rfl rfl rfl ?_
              refine kx_getr 99 F fl_X12_65 kd_163 rfl rfl (j := 27) rfl dX12_laysOver_96 (v := (M 163 27)) (by rw [Fr.e hF_N_3103 kd_163 _ rfl]) rfl ?_
              have hk_3120 : kd (M 163 27) = 79 := Inv.r hI_M kd_163 rfl 27 rfl rfl
              refine kx_iconst 100 F dX12_laysOver_99 rfl ?_
              refine kx_iload 102 F 5 dX12_laysOver_100 rfl rfl ?_
              refine kx_bipush 104 F dX12_laysOver_102 (by decide) rfl ?_
              refine kx_idiv 105 F (v := (x5_2998 / 9)) dX12_laysOver_104 (by omega) (by decide) rfl rfl ?_
              refine kx_imul 106 F (v := 3 * (x5_2998 / 9)) dX12_laysOver_105 (by omega) rfl ?_
              refine kx_iload 108 F 8 dX12_laysOver_106 rfl rfl ?_
              refine kx_iadd 109 F (v := 3 * (x5_2998 / 9) + x8_3102) dX12_laysOver_108 rfl rfl ?_
              refine kx_dup2 110 F dX12_laysOver_109 rfl rfl rfl ?_
              refine kx_lald 111 F hk_3120 rfl rfl (by omega) (by decide) dX12_laysOver_110 (v := (N_3103 (M 163 27) (3 * (x5_2998 / 9) + x8_3102))) rfl rfl ?_
              have h_3121 := Inv.g hI_N_3103 hk_3120 rfl (3 * (x5_2998 / 9) + x8_3102) (a := (-9223372036854775808)) (b := 9223372036854775807) rfl rfl
              refine kx_iload 113 F 9 dX12_laysOver_111 rfl rfl ?_
              refine kx_Si 116 F (As := [vI (zand (zand (M 171 (54 * a1 + 9 * a3 + 3 * (x5_2998 / 9) + ((x5_2998 / 3) % 3))) (M 171 (54 * a1 + 9 * a4 + 3 * (x5_2998 % 3) + x8_3102))) 7)]) (st := [vL (N_3103 (M 163 27) (3 * (x5_2998 / 9) + x8_3102)), vI (3 * (x5_2998 / 9) + x8_3102), vR G (M 163 27)]) sd_X12_367 (c_X12_bits G l N_3103 (zand (zand (M 171 (54 * a1 + 9 * a3 + 3 * (x5_2998 / 9) + ((x5_2998 / 3) % 3))) (M 171 (54 * a1 + 9 * a4 + 3 * (x5_2998 % 3) + x8_3102))) 7) hI_N_3103 (by omega)) ⟨by decide, by decide⟩ rfl rfl (Nat.le_of_ble_eq_true rfl) dX12_laysOver_113 rfl ?_
              intro r_3122 N_3123 q_3124
              obtain ⟨rfl, q_3124c⟩ := q_3124
              refine kx_i2l 117 F dX12_laysOver_116 (by omega) rfl ?_
              refine kx_aload_n 118 F 0 dX12_laysOver_117 rfl rfl rfl ?_
              refine kx_getr 121 F fl_X12_62 kd_163 rfl rfl (j := 26) rfl dX12_laysOver_118 (v := 177) (uq_177 (Inv.r hI_N_3103 kd_163 rfl 26 rfl rfl)) rfl ?_
              refine kx_iload_n 122 F 2 dX12_laysOver_121 rfl rfl rfl ?_
              refine kx_iconst 123 F dX12_laysOver_122 rfl ?_
              refine kx_iload 125 F 6 dX12_laysOver_123 rfl rfl ?_
              refine kx_imul 126 F (v := 3 * ((x5_2998 / 3) % 3)) dX12_laysOver_125 (by omega) rfl ?_
              refine kx_iadd 127 F (v := a2 + 3 * ((x5_2998 / 3) % 3)) dX12_laysOver_126 (by omega) rfl ?_
              refine kx_iload 129 F 7 dX12_laysOver_127 rfl rfl ?_
              refine kx_iadd 130 F (v := a2 + 3 * ((x5_2998 / 3) % 3) + (x5_2998 % 3)) dX12_laysOver_129 rfl rfl ?_
              refine kx_lald 131 F kd_177 rfl rfl (by omega) (by decide) dX12_laysOver_130 (v := (M 177 (a2 + 3 * ((x5_2998 / 3) % 3) + (x5_2998 % 3)))) (by rw [Fr.e hF_N_3103 kd_177 _ rfl]) rfl ?_
              have h_3125 := Inv.g hI_M kd_177 rfl (a2 + 3 * ((x5_2998 / 3) % 3) + (x5_2998 % 3)) (a := (-9223372036854775808)) (b := 9223372036854775807) rfl rfl
              refine kx_lmul 132 F (v := (r_3122 * (M 177 (a2 + 3 * ((x5_2998 / 3) % 3) + (x5_2998 % 3))))) dX12_laysOver_131 rfl rfl ?_
              refine kx_wrapl (fun w_3126 h_3127 _ => ?_)
              refine kx_ladd 133 F (v := (N_3103 (M 163 27) (3 * (x5_2998 / 9) + x8_3102)) + w_3126) dX12_laysOver_132 rfl rfl ?_
              refine kx_wrapl (fun w_3128 h_3129 _ => ?_)
              refine kx_last 134 F hk_3120 rfl rfl (by omega) (by decide) dX12_laysOver_133 rfl ?_
              intro N_3130 hM_N_3130
              have hI_N_3130 : Inv true N_3130 := Inv.u hI_N_3103 hM_N_3130 hk_3120 (a := (-9223372036854775808)) (b := 9223372036854775807) rfl rfl rfl (by omega)
              have hF_N_3130 : Fr f_c_X12_laysOver M N_3130 := Fr.u hF_N_3103 hM_N_3130 hk_3120 rfl
              refine kx_iinc 137 F 8 (v := x8_3102 + 1) (lo' := [some (vR G 163), some (vI a1), some (vI a2), some (vI a3), some (vI a4), some (vI x5_2998), some (vI ((x5_2998 / 3) % 3)), some (vI (x5_2998 % 3)), some (vI (x8_3102 + 1)), some (vI (zand (zand (M 171 (54 * a1 + 9 * a3 + 3 * (x5_2998 / 9) + ((x5_2998 / 3) % 3))) (M 171 (54 * a1 + 9 * a4 + 3 * (x5_2998 % 3) + x8_3102))) 7))]) dX12_laysOver_134 rfl (by omega) (by decide) rfl rfl rfl ?_
              refine kx_goto 51 F dX12_laysOver_137 (by decide) ?_
              refine kx_drop 9 (lo' := [some (vR G 163), some (vI a1), some (vI a2), some (vI a3), some (vI a4), some (vI x5_2998), some (vI ((x5_2998 / 3) % 3)), some (vI (x5_2998 % 3)), some (vI (x8_3102 + 1)), none]) rfl ?_
              exact ih_3106 _ (by omega) (x8_3102 + 1) N_3130 hI_N_3130 hF_N_3130 (by omega) rfl
          exact L_3104 _ 0 N_2999 hI_N_2999 hF_N_2999 (by omega) rfl
      exact L_3000 _ 0 N_2095 hI_N_2095 hF_N_2095 (by omega) rfl
    · refine kx_aload_n 11 F 0 dX12_laysOver_10 rfl rfl rfl ?_
      refine kx_getr 14 F fl_X12_65 kd_163 rfl rfl (j := 27) rfl dX12_laysOver_11 (v := (M 163 27)) (by rw [Fr.e hF_N_2095 kd_163 _ rfl]) rfl ?_
      have hk_3131 : kd (M 163 27) = 79 := Inv.r hI_M kd_163 rfl 27 rfl rfl
      refine kx_iload 16 F 5 dX12_laysOver_14 rfl rfl ?_
      refine kx_lconst 17 (z := 0) F dX12_laysOver_16 (by decide) rfl ?_
      refine kx_last 18 F hk_3131 rfl rfl (by omega) (by decide) dX12_laysOver_17 rfl ?_
      intro N_3132 hM_N_3132
      have hI_N_3132 : Inv true N_3132 := Inv.u hI_N_2095 hM_N_3132 hk_3131 (a := (-9223372036854775808)) (b := 9223372036854775807) rfl rfl rfl (by omega)
      have hF_N_3132 : Fr f_c_X12_laysOver M N_3132 := Fr.u hF_N_2095 hM_N_3132 hk_3131 rfl
      refine kx_iinc 21 F 5 (v := x5_2094 + 1) (lo' := [some (vR G 163), some (vI a1), some (vI a2), some (vI a3), some (vI a4), some (vI (x5_2094 + 1)), none, none, none, none]) dX12_laysOver_18 rfl (by omega) (by decide) rfl rfl rfl ?_
      refine kx_goto 3 F dX12_laysOver_21 (by decide) ?_
      exact ih_2098 _ (by omega) (x5_2094 + 1) N_3132 hI_N_3132 hF_N_3132 (by omega) rfl
  exact L_2096 _ 0 M hI_M hF_M (by omega) rfl
set_option maxRecDepth 100000 in
theorem dGR_28_c_910 : (decode cX12_goesOn 0 = .ok (.iconst 0, 1)) ∧ (decode cX12_goesOn 1 = .ok (.istore 4, 2)) ∧ (decode cX12_goesOn 3 = .ok (.iload 4, 2)) ∧ (decode cX12_goesOn 5 = .ok (.iconst 3, 1)) ∧ (decode cX12_goesOn 6 = .ok (.if_icmp .ge 150, 3)) ∧ (decode cX12_goesOn 9 = .ok (.lconst 0, 1)) ∧ (decode cX12_goesOn 10 = .ok (.lstore 5, 2)) ∧ (decode cX12_goesOn 12 = .ok (.iconst 0, 1)) ∧ (decode cX12_goesOn 13 = .ok (.istore 7, 2)) ∧ (decode cX12_goesOn 15 = .ok (.iload 7, 2)) ∧ (decode cX12_goesOn 17 = .ok (.iconst 3, 1)) ∧ (decode cX12_goesOn 18 = .ok (.if_icmp .ge 35, 3)) := by decide +kernel
theorem dX12_goesOn_0 : decode cX12_goesOn 0 = .ok (.iconst 0, 1) := dGR_28_c_910.1
theorem dX12_goesOn_1 : decode cX12_goesOn 1 = .ok (.istore 4, 2) := dGR_28_c_910.2.1
theorem dX12_goesOn_3 : decode cX12_goesOn 3 = .ok (.iload 4, 2) := dGR_28_c_910.2.2.1
theorem dX12_goesOn_5 : decode cX12_goesOn 5 = .ok (.iconst 3, 1) := dGR_28_c_910.2.2.2.1
theorem dX12_goesOn_6 : decode cX12_goesOn 6 = .ok (.if_icmp .ge 150, 3) := dGR_28_c_910.2.2.2.2.1
theorem dX12_goesOn_9 : decode cX12_goesOn 9 = .ok (.lconst 0, 1) := dGR_28_c_910.2.2.2.2.2.1
theorem dX12_goesOn_10 : decode cX12_goesOn 10 = .ok (.lstore 5, 2) := dGR_28_c_910.2.2.2.2.2.2.1
theorem dX12_goesOn_12 : decode cX12_goesOn 12 = .ok (.iconst 0, 1) := dGR_28_c_910.2.2.2.2.2.2.2.1
theorem dX12_goesOn_13 : decode cX12_goesOn 13 = .ok (.istore 7, 2) := dGR_28_c_910.2.2.2.2.2.2.2.2.1
theorem dX12_goesOn_15 : decode cX12_goesOn 15 = .ok (.iload 7, 2) := dGR_28_c_910.2.2.2.2.2.2.2.2.2.1
theorem dX12_goesOn_17 : decode cX12_goesOn 17 = .ok (.iconst 3, 1) := dGR_28_c_910.2.2.2.2.2.2.2.2.2.2.1
theorem dX12_goesOn_18 : decode cX12_goesOn 18 = .ok (.if_icmp .ge 35, 3) := dGR_28_c_910.2.2.2.2.2.2.2.2.2.2.2
set_option maxRecDepth 100000 in
theorem dGR_28_c_911 : (decode cX12_goesOn 21 = .ok (.lload 5, 2)) ∧ (decode cX12_goesOn 23 = .ok (.aload_n 0, 1)) ∧ (decode cX12_goesOn 24 = .ok (.getfield 59, 3)) ∧ (decode cX12_goesOn 27 = .ok (.iconst 3, 1)) ∧ (decode cX12_goesOn 28 = .ok (.iload_n 1, 1)) ∧ (decode cX12_goesOn 29 = .ok (.imul, 1)) ∧ (decode cX12_goesOn 30 = .ok (.iload 7, 2)) ∧ (decode cX12_goesOn 32 = .ok (.iadd, 1)) ∧ (decode cX12_goesOn 33 = .ok (.laload, 1)) ∧ (decode cX12_goesOn 34 = .ok (.aload_n 3, 1)) ∧ (decode cX12_goesOn 35 = .ok (.iconst 3, 1)) ∧ (decode cX12_goesOn 36 = .ok (.iload 7, 2)) := by decide +kernel
theorem dX12_goesOn_21 : decode cX12_goesOn 21 = .ok (.lload 5, 2) := dGR_28_c_911.1
theorem dX12_goesOn_23 : decode cX12_goesOn 23 = .ok (.aload_n 0, 1) := dGR_28_c_911.2.1
theorem dX12_goesOn_24 : decode cX12_goesOn 24 = .ok (.getfield 59, 3) := dGR_28_c_911.2.2.1
theorem dX12_goesOn_27 : decode cX12_goesOn 27 = .ok (.iconst 3, 1) := dGR_28_c_911.2.2.2.1
theorem dX12_goesOn_28 : decode cX12_goesOn 28 = .ok (.iload_n 1, 1) := dGR_28_c_911.2.2.2.2.1
theorem dX12_goesOn_29 : decode cX12_goesOn 29 = .ok (.imul, 1) := dGR_28_c_911.2.2.2.2.2.1
theorem dX12_goesOn_30 : decode cX12_goesOn 30 = .ok (.iload 7, 2) := dGR_28_c_911.2.2.2.2.2.2.1
theorem dX12_goesOn_32 : decode cX12_goesOn 32 = .ok (.iadd, 1) := dGR_28_c_911.2.2.2.2.2.2.2.1
theorem dX12_goesOn_33 : decode cX12_goesOn 33 = .ok (.laload, 1) := dGR_28_c_911.2.2.2.2.2.2.2.2.1
theorem dX12_goesOn_34 : decode cX12_goesOn 34 = .ok (.aload_n 3, 1) := dGR_28_c_911.2.2.2.2.2.2.2.2.2.1
theorem dX12_goesOn_35 : decode cX12_goesOn 35 = .ok (.iconst 3, 1) := dGR_28_c_911.2.2.2.2.2.2.2.2.2.2.1
theorem dX12_goesOn_36 : decode cX12_goesOn 36 = .ok (.iload 7, 2) := dGR_28_c_911.2.2.2.2.2.2.2.2.2.2.2
set_option maxRecDepth 100000 in
theorem dGR_28_c_912 : (decode cX12_goesOn 38 = .ok (.imul, 1)) ∧ (decode cX12_goesOn 39 = .ok (.iload 4, 2)) ∧ (decode cX12_goesOn 41 = .ok (.iadd, 1)) ∧ (decode cX12_goesOn 42 = .ok (.laload, 1)) ∧ (decode cX12_goesOn 43 = .ok (.lmul, 1)) ∧ (decode cX12_goesOn 44 = .ok (.ladd, 1)) ∧ (decode cX12_goesOn 45 = .ok (.lstore 5, 2)) ∧ (decode cX12_goesOn 47 = .ok (.iinc 7 1, 3)) ∧ (decode cX12_goesOn 50 = .ok (.goto (-35), 3)) ∧ (decode cX12_goesOn 53 = .ok (.aload_n 0, 1)) ∧ (decode cX12_goesOn 54 = .ok (.getfield 59, 3)) ∧ (decode cX12_goesOn 57 = .ok (.iconst 3, 1)) := by decide +kernel
theorem dX12_goesOn_38 : decode cX12_goesOn 38 = .ok (.imul, 1) := dGR_28_c_912.1
theorem dX12_goesOn_39 : decode cX12_goesOn 39 = .ok (.iload 4, 2) := dGR_28_c_912.2.1
theorem dX12_goesOn_41 : decode cX12_goesOn 41 = .ok (.iadd, 1) := dGR_28_c_912.2.2.1
theorem dX12_goesOn_42 : decode cX12_goesOn 42 = .ok (.laload, 1) := dGR_28_c_912.2.2.2.1
theorem dX12_goesOn_43 : decode cX12_goesOn 43 = .ok (.lmul, 1) := dGR_28_c_912.2.2.2.2.1
theorem dX12_goesOn_44 : decode cX12_goesOn 44 = .ok (.ladd, 1) := dGR_28_c_912.2.2.2.2.2.1
theorem dX12_goesOn_45 : decode cX12_goesOn 45 = .ok (.lstore 5, 2) := dGR_28_c_912.2.2.2.2.2.2.1
theorem dX12_goesOn_47 : decode cX12_goesOn 47 = .ok (.iinc 7 1, 3) := dGR_28_c_912.2.2.2.2.2.2.2.1
theorem dX12_goesOn_50 : decode cX12_goesOn 50 = .ok (.goto (-35), 3) := dGR_28_c_912.2.2.2.2.2.2.2.2.1
theorem dX12_goesOn_53 : decode cX12_goesOn 53 = .ok (.aload_n 0, 1) := dGR_28_c_912.2.2.2.2.2.2.2.2.2.1
theorem dX12_goesOn_54 : decode cX12_goesOn 54 = .ok (.getfield 59, 3) := dGR_28_c_912.2.2.2.2.2.2.2.2.2.2.1
theorem dX12_goesOn_57 : decode cX12_goesOn 57 = .ok (.iconst 3, 1) := dGR_28_c_912.2.2.2.2.2.2.2.2.2.2.2
set_option maxRecDepth 100000 in
theorem dGR_28_c_913 : (decode cX12_goesOn 58 = .ok (.iload_n 2, 1)) ∧ (decode cX12_goesOn 59 = .ok (.imul, 1)) ∧ (decode cX12_goesOn 60 = .ok (.iload 4, 2)) ∧ (decode cX12_goesOn 62 = .ok (.iadd, 1)) ∧ (decode cX12_goesOn 63 = .ok (.lload 5, 2)) ∧ (decode cX12_goesOn 65 = .ok (.lastore, 1)) ∧ (decode cX12_goesOn 66 = .ok (.iconst 0, 1)) ∧ (decode cX12_goesOn 67 = .ok (.istore 7, 2)) ∧ (decode cX12_goesOn 69 = .ok (.iload 7, 2)) ∧ (decode cX12_goesOn 71 = .ok (.iconst 3, 1)) ∧ (decode cX12_goesOn 72 = .ok (.if_icmp .ge 78, 3)) ∧ (decode cX12_goesOn 75 = .ok (.lconst 0, 1)) := by decide +kernel
theorem dX12_goesOn_58 : decode cX12_goesOn 58 = .ok (.iload_n 2, 1) := dGR_28_c_913.1
theorem dX12_goesOn_59 : decode cX12_goesOn 59 = .ok (.imul, 1) := dGR_28_c_913.2.1
theorem dX12_goesOn_60 : decode cX12_goesOn 60 = .ok (.iload 4, 2) := dGR_28_c_913.2.2.1
theorem dX12_goesOn_62 : decode cX12_goesOn 62 = .ok (.iadd, 1) := dGR_28_c_913.2.2.2.1
theorem dX12_goesOn_63 : decode cX12_goesOn 63 = .ok (.lload 5, 2) := dGR_28_c_913.2.2.2.2.1
theorem dX12_goesOn_65 : decode cX12_goesOn 65 = .ok (.lastore, 1) := dGR_28_c_913.2.2.2.2.2.1
theorem dX12_goesOn_66 : decode cX12_goesOn 66 = .ok (.iconst 0, 1) := dGR_28_c_913.2.2.2.2.2.2.1
theorem dX12_goesOn_67 : decode cX12_goesOn 67 = .ok (.istore 7, 2) := dGR_28_c_913.2.2.2.2.2.2.2.1
theorem dX12_goesOn_69 : decode cX12_goesOn 69 = .ok (.iload 7, 2) := dGR_28_c_913.2.2.2.2.2.2.2.2.1
theorem dX12_goesOn_71 : decode cX12_goesOn 71 = .ok (.iconst 3, 1) := dGR_28_c_913.2.2.2.2.2.2.2.2.2.1
theorem dX12_goesOn_72 : decode cX12_goesOn 72 = .ok (.if_icmp .ge 78, 3) := dGR_28_c_913.2.2.2.2.2.2.2.2.2.2.1
theorem dX12_goesOn_75 : decode cX12_goesOn 75 = .ok (.lconst 0, 1) := dGR_28_c_913.2.2.2.2.2.2.2.2.2.2.2
set_option maxRecDepth 100000 in
theorem dGR_28_c_914 : (decode cX12_goesOn 76 = .ok (.lstore 8, 2)) ∧ (decode cX12_goesOn 78 = .ok (.iconst 0, 1)) ∧ (decode cX12_goesOn 79 = .ok (.istore 10, 2)) ∧ (decode cX12_goesOn 81 = .ok (.iload 10, 2)) ∧ (decode cX12_goesOn 83 = .ok (.iconst 3, 1)) ∧ (decode cX12_goesOn 84 = .ok (.if_icmp .ge 41, 3)) ∧ (decode cX12_goesOn 87 = .ok (.lload 8, 2)) ∧ (decode cX12_goesOn 89 = .ok (.aload_n 0, 1)) ∧ (decode cX12_goesOn 90 = .ok (.getfield 62, 3)) ∧ (decode cX12_goesOn 93 = .ok (.bipush 9, 2)) ∧ (decode cX12_goesOn 95 = .ok (.iload_n 1, 1)) ∧ (decode cX12_goesOn 96 = .ok (.imul, 1)) := by decide +kernel
theorem dX12_goesOn_76 : decode cX12_goesOn 76 = .ok (.lstore 8, 2) := dGR_28_c_914.1
theorem dX12_goesOn_78 : decode cX12_goesOn 78 = .ok (.iconst 0, 1) := dGR_28_c_914.2.1
theorem dX12_goesOn_79 : decode cX12_goesOn 79 = .ok (.istore 10, 2) := dGR_28_c_914.2.2.1
theorem dX12_goesOn_81 : decode cX12_goesOn 81 = .ok (.iload 10, 2) := dGR_28_c_914.2.2.2.1
theorem dX12_goesOn_83 : decode cX12_goesOn 83 = .ok (.iconst 3, 1) := dGR_28_c_914.2.2.2.2.1
theorem dX12_goesOn_84 : decode cX12_goesOn 84 = .ok (.if_icmp .ge 41, 3) := dGR_28_c_914.2.2.2.2.2.1
theorem dX12_goesOn_87 : decode cX12_goesOn 87 = .ok (.lload 8, 2) := dGR_28_c_914.2.2.2.2.2.2.1
theorem dX12_goesOn_89 : decode cX12_goesOn 89 = .ok (.aload_n 0, 1) := dGR_28_c_914.2.2.2.2.2.2.2.1
theorem dX12_goesOn_90 : decode cX12_goesOn 90 = .ok (.getfield 62, 3) := dGR_28_c_914.2.2.2.2.2.2.2.2.1
theorem dX12_goesOn_93 : decode cX12_goesOn 93 = .ok (.bipush 9, 2) := dGR_28_c_914.2.2.2.2.2.2.2.2.2.1
theorem dX12_goesOn_95 : decode cX12_goesOn 95 = .ok (.iload_n 1, 1) := dGR_28_c_914.2.2.2.2.2.2.2.2.2.2.1
theorem dX12_goesOn_96 : decode cX12_goesOn 96 = .ok (.imul, 1) := dGR_28_c_914.2.2.2.2.2.2.2.2.2.2.2
set_option maxRecDepth 100000 in
theorem dGR_28_c_915 : (decode cX12_goesOn 97 = .ok (.iconst 3, 1)) ∧ (decode cX12_goesOn 98 = .ok (.iload 7, 2)) ∧ (decode cX12_goesOn 100 = .ok (.imul, 1)) ∧ (decode cX12_goesOn 101 = .ok (.iadd, 1)) ∧ (decode cX12_goesOn 102 = .ok (.iload 10, 2)) ∧ (decode cX12_goesOn 104 = .ok (.iadd, 1)) ∧ (decode cX12_goesOn 105 = .ok (.laload, 1)) ∧ (decode cX12_goesOn 106 = .ok (.aload_n 3, 1)) ∧ (decode cX12_goesOn 107 = .ok (.iconst 3, 1)) ∧ (decode cX12_goesOn 108 = .ok (.iload 10, 2)) ∧ (decode cX12_goesOn 110 = .ok (.imul, 1)) ∧ (decode cX12_goesOn 111 = .ok (.iload 4, 2)) := by decide +kernel
theorem dX12_goesOn_97 : decode cX12_goesOn 97 = .ok (.iconst 3, 1) := dGR_28_c_915.1
theorem dX12_goesOn_98 : decode cX12_goesOn 98 = .ok (.iload 7, 2) := dGR_28_c_915.2.1
theorem dX12_goesOn_100 : decode cX12_goesOn 100 = .ok (.imul, 1) := dGR_28_c_915.2.2.1
theorem dX12_goesOn_101 : decode cX12_goesOn 101 = .ok (.iadd, 1) := dGR_28_c_915.2.2.2.1
theorem dX12_goesOn_102 : decode cX12_goesOn 102 = .ok (.iload 10, 2) := dGR_28_c_915.2.2.2.2.1
theorem dX12_goesOn_104 : decode cX12_goesOn 104 = .ok (.iadd, 1) := dGR_28_c_915.2.2.2.2.2.1
theorem dX12_goesOn_105 : decode cX12_goesOn 105 = .ok (.laload, 1) := dGR_28_c_915.2.2.2.2.2.2.1
theorem dX12_goesOn_106 : decode cX12_goesOn 106 = .ok (.aload_n 3, 1) := dGR_28_c_915.2.2.2.2.2.2.2.1
theorem dX12_goesOn_107 : decode cX12_goesOn 107 = .ok (.iconst 3, 1) := dGR_28_c_915.2.2.2.2.2.2.2.2.1
theorem dX12_goesOn_108 : decode cX12_goesOn 108 = .ok (.iload 10, 2) := dGR_28_c_915.2.2.2.2.2.2.2.2.2.1
theorem dX12_goesOn_110 : decode cX12_goesOn 110 = .ok (.imul, 1) := dGR_28_c_915.2.2.2.2.2.2.2.2.2.2.1
theorem dX12_goesOn_111 : decode cX12_goesOn 111 = .ok (.iload 4, 2) := dGR_28_c_915.2.2.2.2.2.2.2.2.2.2.2
set_option maxRecDepth 100000 in
theorem dGR_28_c_916 : (decode cX12_goesOn 113 = .ok (.iadd, 1)) ∧ (decode cX12_goesOn 114 = .ok (.laload, 1)) ∧ (decode cX12_goesOn 115 = .ok (.lmul, 1)) ∧ (decode cX12_goesOn 116 = .ok (.ladd, 1)) ∧ (decode cX12_goesOn 117 = .ok (.lstore 8, 2)) ∧ (decode cX12_goesOn 119 = .ok (.iinc 10 1, 3)) ∧ (decode cX12_goesOn 122 = .ok (.goto (-41), 3)) ∧ (decode cX12_goesOn 125 = .ok (.aload_n 0, 1)) ∧ (decode cX12_goesOn 126 = .ok (.getfield 62, 3)) ∧ (decode cX12_goesOn 129 = .ok (.bipush 9, 2)) ∧ (decode cX12_goesOn 131 = .ok (.iload_n 2, 1)) ∧ (decode cX12_goesOn 132 = .ok (.imul, 1)) := by decide +kernel
theorem dX12_goesOn_113 : decode cX12_goesOn 113 = .ok (.iadd, 1) := dGR_28_c_916.1
theorem dX12_goesOn_114 : decode cX12_goesOn 114 = .ok (.laload, 1) := dGR_28_c_916.2.1
theorem dX12_goesOn_115 : decode cX12_goesOn 115 = .ok (.lmul, 1) := dGR_28_c_916.2.2.1
theorem dX12_goesOn_116 : decode cX12_goesOn 116 = .ok (.ladd, 1) := dGR_28_c_916.2.2.2.1
theorem dX12_goesOn_117 : decode cX12_goesOn 117 = .ok (.lstore 8, 2) := dGR_28_c_916.2.2.2.2.1
theorem dX12_goesOn_119 : decode cX12_goesOn 119 = .ok (.iinc 10 1, 3) := dGR_28_c_916.2.2.2.2.2.1
theorem dX12_goesOn_122 : decode cX12_goesOn 122 = .ok (.goto (-41), 3) := dGR_28_c_916.2.2.2.2.2.2.1
theorem dX12_goesOn_125 : decode cX12_goesOn 125 = .ok (.aload_n 0, 1) := dGR_28_c_916.2.2.2.2.2.2.2.1
theorem dX12_goesOn_126 : decode cX12_goesOn 126 = .ok (.getfield 62, 3) := dGR_28_c_916.2.2.2.2.2.2.2.2.1
theorem dX12_goesOn_129 : decode cX12_goesOn 129 = .ok (.bipush 9, 2) := dGR_28_c_916.2.2.2.2.2.2.2.2.2.1
theorem dX12_goesOn_131 : decode cX12_goesOn 131 = .ok (.iload_n 2, 1) := dGR_28_c_916.2.2.2.2.2.2.2.2.2.2.1
theorem dX12_goesOn_132 : decode cX12_goesOn 132 = .ok (.imul, 1) := dGR_28_c_916.2.2.2.2.2.2.2.2.2.2.2
set_option maxRecDepth 100000 in
theorem dGR_28_c_917 : (decode cX12_goesOn 133 = .ok (.iconst 3, 1)) ∧ (decode cX12_goesOn 134 = .ok (.iload 7, 2)) ∧ (decode cX12_goesOn 136 = .ok (.imul, 1)) ∧ (decode cX12_goesOn 137 = .ok (.iadd, 1)) ∧ (decode cX12_goesOn 138 = .ok (.iload 4, 2)) ∧ (decode cX12_goesOn 140 = .ok (.iadd, 1)) ∧ (decode cX12_goesOn 141 = .ok (.lload 8, 2)) ∧ (decode cX12_goesOn 143 = .ok (.lastore, 1)) ∧ (decode cX12_goesOn 144 = .ok (.iinc 7 1, 3)) ∧ (decode cX12_goesOn 147 = .ok (.goto (-78), 3)) ∧ (decode cX12_goesOn 150 = .ok (.iinc 4 1, 3)) ∧ (decode cX12_goesOn 153 = .ok (.goto (-150), 3)) := by decide +kernel
theorem dX12_goesOn_133 : decode cX12_goesOn 133 = .ok (.iconst 3, 1) := dGR_28_c_917.1
theorem dX12_goesOn_134 : decode cX12_goesOn 134 = .ok (.iload 7, 2) := dGR_28_c_917.2.1
theorem dX12_goesOn_136 : decode cX12_goesOn 136 = .ok (.imul, 1) := dGR_28_c_917.2.2.1
theorem dX12_goesOn_137 : decode cX12_goesOn 137 = .ok (.iadd, 1) := dGR_28_c_917.2.2.2.1
theorem dX12_goesOn_138 : decode cX12_goesOn 138 = .ok (.iload 4, 2) := dGR_28_c_917.2.2.2.2.1
theorem dX12_goesOn_140 : decode cX12_goesOn 140 = .ok (.iadd, 1) := dGR_28_c_917.2.2.2.2.2.1
theorem dX12_goesOn_141 : decode cX12_goesOn 141 = .ok (.lload 8, 2) := dGR_28_c_917.2.2.2.2.2.2.1
theorem dX12_goesOn_143 : decode cX12_goesOn 143 = .ok (.lastore, 1) := dGR_28_c_917.2.2.2.2.2.2.2.1
theorem dX12_goesOn_144 : decode cX12_goesOn 144 = .ok (.iinc 7 1, 3) := dGR_28_c_917.2.2.2.2.2.2.2.2.1
theorem dX12_goesOn_147 : decode cX12_goesOn 147 = .ok (.goto (-78), 3) := dGR_28_c_917.2.2.2.2.2.2.2.2.2.1
theorem dX12_goesOn_150 : decode cX12_goesOn 150 = .ok (.iinc 4 1, 3) := dGR_28_c_917.2.2.2.2.2.2.2.2.2.2.1
theorem dX12_goesOn_153 : decode cX12_goesOn 153 = .ok (.goto (-150), 3) := dGR_28_c_917.2.2.2.2.2.2.2.2.2.2.2
theorem dX12_goesOn_156 : decode cX12_goesOn 156 = .ok (.return_, 1) := by decide +kernel
abbrev f_c_X12_goesOn : List (Nat × Int) := [(77, -1), (78, -1)]
set_option maxHeartbeats 4000000 in
set_option maxRecDepth 100000 in
theorem c_X12_goesOn (G : KG) (l : Launch) (M : Mem) (a1 : Int) (a2 : Int) (c3 : Int) (hI_M : Inv true M) (hk_c3 : kd c3 = 79) (hpre : -2147483648 ≤ a1 ∧ a1 ≤ 2147483647 ∧ -2147483648 ≤ a2 ∧ a2 ≤ 2147483647 ∧ 0 ≤ a1 ∧ a1 ≤ 20 ∧ 0 ≤ a2 ∧ a2 ≤ 20) : KC true G l yX12_goesOn cX12_goesOn 11 none (0, 0) [vR G 163, vI a1, vI a2, vR G c3] M (fun A => kQv true G A (fun (N : Mem) => Inv true N ∧ Fr f_c_X12_goesOn M N)) := by
  refine kx_met (lo := [some (vR G 163), some (vI a1), some (vI a2), some (vR G c3), none, none, none, none, none, none, none]) (by decide) (Nat.le_of_ble_eq_true rfl) rfl ?_
  intro X F hQ
  have hF_M : Fr f_c_X12_goesOn M M := Fr.rf _ _
  refine kx_iconst 1 F dX12_goesOn_0 rfl ?_
  refine kx_istore 3 F 4 (lo' := [some (vR G 163), some (vI a1), some (vI a2), some (vR G c3), some (vI 0), none, none, none, none, none, none]) dX12_goesOn_1 (by decide) rfl rfl rfl ?_
  have L_2375 : ∀ (n_2376 : Nat) (x4_2373 : Int) (N_2374 : Mem), Inv true N_2374 → Fr f_c_X12_goesOn M N_2374 → 0 ≤ x4_2373 ∧ x4_2373 ≤ 3 → (3 - (x4_2373)).toNat = n_2376 → KJ true G X N_2374 3 [some (vR G 163), some (vI a1), some (vI a2), some (vR G c3), some (vI x4_2373), none, none, none, none, none, none] [] := by
    intro n_2376
    refine Nat.strongRecOn n_2376 ?_
    intro n_2376 ih_2377 x4_2373 N_2374 hI_N_2374 hF_N_2374 h_2378 hm_2379
    refine kx_iload 5 F 4 dX12_goesOn_3 rfl rfl ?_
    refine kx_iconst 6 F dX12_goesOn_5 rfl ?_
    refine kx_icmp_ge 9 F 156 dX12_goesOn_6 (by decide) rfl (by omega) (by decide) (fun h_2380 => ?_) (fun h_2380 => ?_)
    · exact kx_vret F hQ ⟨hI_N_2374, hF_N_2374⟩ dX12_goesOn_156
    · refine kx_lconst 10 (z := 0) F dX12_goesOn_9 (by decide) rfl ?_
      refine kx_lstore 12 F 5 (lo' := [some (vR G 163), some (vI a1), some (vI a2), some (vR G c3), some (vI x4_2373), some (vL 0), none, none, none, none, none]) dX12_goesOn_10 (by decide) rfl rfl rfl ?_
      refine kx_iconst 13 F dX12_goesOn_12 rfl ?_
      refine kx_istore 15 F 7 (lo' := [some (vR G 163), some (vI a1), some (vI a2), some (vR G c3), some (vI x4_2373), some (vL 0), none, some (vI 0), none, none, none]) dX12_goesOn_13 (by decide) rfl rfl rfl ?_
      have L_2688 : ∀ (n_2689 : Nat) (x5_2686 : Int) (x7_2687 : Int), (-9223372036854775808) ≤ x5_2686 ∧ x5_2686 ≤ 9223372036854775807 ∧ 0 ≤ x7_2687 ∧ x7_2687 ≤ 3 → (3 - (x7_2687)).toNat = n_2689 → KJ true G X N_2374 15 [some (vR G 163), some (vI a1), some (vI a2), some (vR G c3), some (vI x4_2373), some (vL x5_2686), none, some (vI x7_2687), none, none, none] [] := by
        intro n_2689
        refine Nat.strongRecOn n_2689 ?_
        intro n_2689 ih_2690 x5_2686 x7_2687 h_2691 hm_2692
        refine kx_iload 17 F 7 dX12_goesOn_15 rfl rfl ?_
        refine kx_iconst 18 F dX12_goesOn_17 rfl ?_
        refine kx_icmp_ge 21 F 53 dX12_goesOn_18 (by decide) rfl (by omega) (by decide) (fun h_2693 => ?_) (fun h_2693 => ?_)
        · refine kx_aload_n 54 F 0 dX12_goesOn_53 rfl rfl rfl ?_
          refine kx_getr 57 F fl_X12_59 kd_163 rfl rfl (j := 25) rfl dX12_goesOn_54 (v := 176) (uq_176 (Inv.r hI_N_2374 kd_163 rfl 25 rfl rfl)) rfl ?_
          refine kx_iconst 58 F dX12_goesOn_57 rfl ?_
          refine kx_iload_n 59 F 2 dX12_goesOn_58 rfl rfl rfl ?_
          refine kx_imul 60 F (v := 3 * a2) dX12_goesOn_59 (by omega) rfl ?_
          refine kx_iload 62 F 4 dX12_goesOn_60 rfl rfl ?_
          refine kx_iadd 63 F (v := 3 * a2 + x4_2373) dX12_goesOn_62 rfl rfl ?_
          refine kx_lload 65 F 5 dX12_goesOn_63 rfl rfl ?_
          refine kx_last 66 F kd_176 rfl rfl (by omega) (by decide) dX12_goesOn_65 rfl ?_
          intro N_2694 hM_N_2694
          have hI_N_2694 : Inv true N_2694 := Inv.u hI_N_2374 hM_N_2694 kd_176 (a := (-9223372036854775808)) (b := 9223372036854775807) rfl rfl rfl (by omega)
          have hF_N_2694 : Fr f_c_X12_goesOn M N_2694 := Fr.u hF_N_2374 hM_N_2694 kd_176 rfl
          refine kx_iconst 67 F dX12_goesOn_66 rfl ?_
          refine kx_istore 69 F 7 (lo' := [some (vR G 163), some (vI a1), some (vI a2), some (vR G c3), some (vI x4_2373), some (vL x5_2686), none, some (vI 0), none, none, none]) dX12_goesOn_67 (by decide) rfl rfl rfl ?_
          have L_2909 : ∀ (n_2910 : Nat) (x7_2907 : Int) (N_2908 : Mem), Inv true N_2908 → Fr f_c_X12_goesOn M N_2908 → 0 ≤ x7_2907 ∧ x7_2907 ≤ 3 → (3 - (x7_2907)).toNat = n_2910 → KJ true G X N_2908 69 [some (vR G 163), some (vI a1), some (vI a2), some (vR G c3), some (vI x4_2373), none, none, some (vI x7_2907), none, none, none] [] := by
            intro n_2910
            refine Nat.strongRecOn n_2910 ?_
            intro n_2910 ih_2911 x7_2907 N_2908 hI_N_2908 hF_N_2908 h_2912 hm_2913
            refine kx_iload 71 F 7 dX12_goesOn_69 rfl rfl ?_
            refine kx_iconst 72 F dX12_goesOn_71 rfl ?_
            refine kx_icmp_ge 75 F 150 dX12_goesOn_72 (by decide) rfl (by omega) (by decide) (fun h_2914 => ?_) (fun h_2914 => ?_)
            · refine kx_iinc 153 F 4 (v := x4_2373 + 1) (lo' := [some (vR G 163), some (vI a1), some (vI a2), some (vR G c3), some (vI (x4_2373 + 1)), none, none, some (vI x7_2907), none, none, none]) dX12_goesOn_150 rfl (by omega) (by decide) rfl rfl rfl ?_
              refine kx_goto 3 F dX12_goesOn_153 (by decide) ?_
              refine kx_drop 7 (lo' := [some (vR G 163), some (vI a1), some (vI a2), some (vR G c3), some (vI (x4_2373 + 1)), none, none, none, none, none, none]) rfl ?_
              exact ih_2377 _ (by omega) (x4_2373 + 1) N_2908 hI_N_2908 hF_N_2908 (by omega) rfl
            · refine kx_lconst 76 (z := 0) F dX12_goesOn_75 (by decide) rfl ?_
              refine kx_lstore 78 F 8 (lo' := [some (vR G 163), some (vI a1), some (vI a2), some (vR G c3), some (vI x4_2373), none, none, some (vI x7_2907), some (vL 0), none, none]) dX12_goesOn_76 (by decide) rfl rfl rfl ?_
              refine kx_iconst 79 F dX12_goesOn_78 rfl ?_
              refine kx_istore 81 F 10 (lo' := [some (vR G 163), some (vI a1), some (vI a2), some (vR G c3), some (vI x4_2373), none, none, some (vI x7_2907), some (vL 0), none, some (vI 0)]) dX12_goesOn_79 (by decide) rfl rfl rfl ?_
              have L_2952 : ∀ (n_2953 : Nat) (x8_2950 : Int) (x10_2951 : Int), (-9223372036854775808) ≤ x8_2950 ∧ x8_2950 ≤ 9223372036854775807 ∧ 0 ≤ x10_2951 ∧ x10_2951 ≤ 3 → (3 - (x10_2951)).toNat = n_2953 → KJ true G X N_2908 81 [some (vR G 163), some (vI a1), some (vI a2), some (vR G c3), some (vI x4_2373), none, none, some (vI x7_2907), some (vL x8_2950), none, some (vI x10_2951)] [] := by
                intro n_2953
                refine Nat.strongRecOn n_2953 ?_
                intro n_2953 ih_2954 x8_2950 x10_2951 h_2955 hm_2956
                refine kx_iload 83 F 10 dX12_goesOn_81 rfl rfl ?_
                refine kx_iconst 84 F dX12_goesOn_83 rfl ?_
                refine kx_icmp_ge 87 F 125 dX12_goesOn_84 (by decide) rfl (by omega) (by decide) (fun h_2957 => ?_) (fun h_2957 => ?_)
                · refine kx_aload_n 126 F 0 dX12_goesOn_125 rfl rfl rfl ?_
                  refine kx_getr 129 F fl_X12_62 kd_163 rfl rfl (j := 26) rfl dX12_goesOn_126 (v := 177) (uq_177 (Inv.r hI_N_2908 kd_163 rfl 26 rfl rfl)) rfl ?_
                  refine kx_bipush 131 F dX12_goesOn_129 (by decide) rfl ?_
                  refine kx_iload_n 132 F 2 dX12_goesOn_131 rfl rfl rfl ?_
                  refine kx_imul 133 F (v := 9 * a2) dX12_goesOn_132 (by omega) rfl ?_
                  refine kx_iconst 134 F dX12_goesOn_133 rfl ?_
                  refine kx_iload 136 F 7 dX12_goesOn_134 rfl rfl ?_
                  refine kx_imul 137 F (v := 3 * x7_2907) dX12_goesOn_136 (by omega) rfl ?_
                  refine kx_iadd 138 F (v := 9 * a2 + 3 * x7_2907) dX12_goesOn_137 (by omega) rfl ?_
                  refine kx_iload 140 F 4 dX12_goesOn_138 rfl rfl ?_
                  refine kx_iadd 141 F (v := 9 * a2 + 3 * x7_2907 + x4_2373) dX12_goesOn_140 rfl rfl ?_
                  refine kx_lload 143 F 8 dX12_goesOn_141 rfl rfl ?_
                  refine kx_last 144 F kd_177 rfl rfl (by omega) (by decide) dX12_goesOn_143 rfl ?_
                  intro N_2958 hM_N_2958
                  have hI_N_2958 : Inv true N_2958 := Inv.u hI_N_2908 hM_N_2958 kd_177 (a := (-9223372036854775808)) (b := 9223372036854775807) rfl rfl rfl (by omega)
                  have hF_N_2958 : Fr f_c_X12_goesOn M N_2958 := Fr.u hF_N_2908 hM_N_2958 kd_177 rfl
                  refine kx_iinc 147 F 7 (v := x7_2907 + 1) (lo' := [some (vR G 163), some (vI a1), some (vI a2), some (vR G c3), some (vI x4_2373), none, none, some (vI (x7_2907 + 1)), some (vL x8_2950), none, some (vI x10_2951)]) dX12_goesOn_144 rfl (by omega) (by decide) rfl rfl rfl ?_
                  refine kx_goto 69 F dX12_goesOn_147 (by decide) ?_
                  refine kx_drop 8 (lo' := [some (vR G 163), some (vI a1), some (vI a2), some (vR G c3), some (vI x4_2373), none, none, some (vI (x7_2907 + 1)), none, none, some (vI x10_2951)]) rfl ?_
                  refine kx_drop 10 (lo' := [some (vR G 163), some (vI a1), some (vI a2), some (vR G c3), some (vI x4_2373), none, none, some (vI (x7_2907 + 1)), none, none, none]) rfl ?_
                  exact ih_2911 _ (by omega) (x7_2907 + 1) N_2958 hI_N_2958 hF_N_2958 (by omega) rfl
                · refine kx_lload 89 F 8 dX12_goesOn_87 rfl rfl ?_
                  refine kx_aload_n 90 F 0 dX12_goesOn_89 rfl rfl rfl ?_
                  refine kx_getr 93 F fl_X12_62 kd_163 rfl rfl (j := 26) rfl dX12_goesOn_90 (v := 177) (uq_177 (Inv.r hI_N_2908 kd_163 rfl 26 rfl rfl)) rfl ?_
                  refine kx_bipush 95 F dX12_goesOn_93 (by decide) rfl ?_
                  refine kx_iload_n 96 F 1 dX12_goesOn_95 rfl rfl rfl ?_
                  refine kx_imul 97 F (v := 9 * a1) dX12_goesOn_96 (by omega) rfl ?_
                  refine kx_iconst 98 F dX12_goesOn_97 rfl ?_
                  refine kx_iload 100 F 7 dX12_goesOn_98 rfl rfl ?_
                  refine kx_imul 101 F (v := 3 * x7_2907) dX12_goesOn_100 (by omega) rfl ?_
                  refine kx_iadd 102 F (v := 9 * a1 + 3 * x7_2907) dX12_goesOn_101 (by omega) rfl ?_
                  refine kx_iload 104 F 10 dX12_goesOn_102 rfl rfl ?_
                  refine kx_iadd 105 F (v := 9 * a1 + 3 * x7_2907 + x10_2951) dX12_goesOn_104 rfl rfl ?_
                  refine kx_lald 106 F kd_177 rfl rfl (by omega) (by decide) dX12_goesOn_105 (v := (N_2908 177 (9 * a1 + 3 * x7_2907 + x10_2951))) rfl rfl ?_
                  have h_2959 := Inv.g hI_N_2908 kd_177 rfl (9 * a1 + 3 * x7_2907 + x10_2951) (a := (-9223372036854775808)) (b := 9223372036854775807) rfl rfl
                  refine kx_aload_n 107 F 3 dX12_goesOn_106 rfl rfl rfl ?_
                  refine kx_iconst 108 F dX12_goesOn_107 rfl ?_
                  refine kx_iload 110 F 10 dX12_goesOn_108 rfl rfl ?_
                  refine kx_imul 111 F (v := 3 * x10_2951) dX12_goesOn_110 (by omega) rfl ?_
                  refine kx_iload 113 F 4 dX12_goesOn_111 rfl rfl ?_
                  refine kx_iadd 114 F (v := 3 * x10_2951 + x4_2373) dX12_goesOn_113 rfl rfl ?_
                  refine kx_lald 115 F hk_c3 rfl rfl (by omega) (by decide) dX12_goesOn_114 (v := (M c3 (3 * x10_2951 + x4_2373))) (by rw [Fr.e hF_N_2908 hk_c3 _ rfl]) rfl ?_
                  have h_2960 := Inv.g hI_M hk_c3 rfl (3 * x10_2951 + x4_2373) (a := (-9223372036854775808)) (b := 9223372036854775807) rfl rfl
                  refine kx_lmul 116 F (v := ((N_2908 177 (9 * a1 + 3 * x7_2907 + x10_2951)) * (M c3 (3 * x10_2951 + x4_2373)))) dX12_goesOn_115 rfl rfl ?_
                  refine kx_wrapl (fun w_2961 h_2962 _ => ?_)
                  refine kx_ladd 117 F (v := x8_2950 + w_2961) dX12_goesOn_116 rfl rfl ?_
                  refine kx_wrapl (fun w_2963 h_2964 _ => ?_)
                  refine kx_lstore 119 F 8 (lo' := [some (vR G 163), some (vI a1), some (vI a2), some (vR G c3), some (vI x4_2373), none, none, some (vI x7_2907), some (vL w_2963), none, some (vI x10_2951)]) dX12_goesOn_117 (by decide) rfl rfl rfl ?_
                  refine kx_iinc 122 F 10 (v := x10_2951 + 1) (lo' := [some (vR G 163), some (vI a1), some (vI a2), some (vR G c3), some (vI x4_2373), none, none, some (vI x7_2907), some (vL w_2963), none, some (vI (x10_2951 + 1))]) dX12_goesOn_119 rfl (by omega) (by decide) rfl rfl rfl ?_
                  refine kx_goto 81 F dX12_goesOn_122 (by decide) ?_
                  exact ih_2954 _ (by omega) w_2963 (x10_2951 + 1) (by omega) rfl
              exact L_2952 _ 0 0 (by omega) rfl
          refine kx_drop 5 (lo' := [some (vR G 163), some (vI a1), some (vI a2), some (vR G c3), some (vI x4_2373), none, none, some (vI 0), none, none, none]) rfl ?_
          exact L_2909 _ 0 N_2694 hI_N_2694 hF_N_2694 (by omega) rfl
        · refine kx_lload 23 F 5 dX12_goesOn_21 rfl rfl ?_
          refine kx_aload_n 24 F 0 dX12_goesOn_23 rfl rfl rfl ?_
          refine kx_getr 27 F fl_X12_59 kd_163 rfl rfl (j := 25) rfl dX12_goesOn_24 (v := 176) (uq_176 (Inv.r hI_N_2374 kd_163 rfl 25 rfl rfl)) rfl ?_
          refine kx_iconst 28 F dX12_goesOn_27 rfl ?_
          refine kx_iload_n 29 F 1 dX12_goesOn_28 rfl rfl rfl ?_
          refine kx_imul 30 F (v := 3 * a1) dX12_goesOn_29 (by omega) rfl ?_
          refine kx_iload 32 F 7 dX12_goesOn_30 rfl rfl ?_
          refine kx_iadd 33 F (v := 3 * a1 + x7_2687) dX12_goesOn_32 rfl rfl ?_
          refine kx_lald 34 F kd_176 rfl rfl (by omega) (by decide) dX12_goesOn_33 (v := (N_2374 176 (3 * a1 + x7_2687))) rfl rfl ?_
          have h_2965 := Inv.g hI_N_2374 kd_176 rfl (3 * a1 + x7_2687) (a := (-9223372036854775808)) (b := 9223372036854775807) rfl rfl
          refine kx_aload_n 35 F 3 dX12_goesOn_34 rfl rfl rfl ?_
          refine kx_iconst 36 F dX12_goesOn_35 rfl ?_
          refine kx_iload 38 F 7 dX12_goesOn_36 rfl rfl ?_
          refine kx_imul 39 F (v := 3 * x7_2687) dX12_goesOn_38 (by omega) rfl ?_
          refine kx_iload 41 F 4 dX12_goesOn_39 rfl rfl ?_
          refine kx_iadd 42 F (v := 3 * x7_2687 + x4_2373) dX12_goesOn_41 rfl rfl ?_
          refine kx_lald 43 F hk_c3 rfl rfl (by omega) (by decide) dX12_goesOn_42 (v := (M c3 (3 * x7_2687 + x4_2373))) (by rw [Fr.e hF_N_2374 hk_c3 _ rfl]) rfl ?_
          have h_2966 := Inv.g hI_M hk_c3 rfl (3 * x7_2687 + x4_2373) (a := (-9223372036854775808)) (b := 9223372036854775807) rfl rfl
          refine kx_lmul 44 F (v := ((N_2374 176 (3 * a1 + x7_2687)) * (M c3 (3 * x7_2687 + x4_2373)))) dX12_goesOn_43 rfl rfl ?_
          refine kx_wrapl (fun w_2967 h_2968 _ => ?_)
          refine kx_ladd 45 F (v := x5_2686 + w_2967) dX12_goesOn_44 rfl rfl ?_
          refine kx_wrapl (fun w_2969 h_2970 _ => ?_)
          refine kx_lstore 47 F 5 (lo' := [some (vR G 163), some (vI a1), some (vI a2), some (vR G c3), some (vI x4_2373), some (vL w_2969), none, some (vI x7_2687), none, none, none]) dX12_goesOn_45 (by decide) rfl rfl rfl ?_
          refine kx_iinc 50 F 7 (v := x7_2687 + 1) (lo' := [some (vR G 163), some (vI a1), some (vI a2), some (vR G c3), some (vI x4_2373), some (vL w_2969), none, some (vI (x7_2687 + 1)), none, none, none]) dX12_goesOn_47 rfl (by omega) (by decide) rfl rfl rfl ?_
          refine kx_goto 15 F dX12_goesOn_50 (by decide) ?_
          exact ih_2690 _ (by omega) w_2969 (x7_2687 + 1) (by omega) rfl
      exact L_2688 _ 0 0 (by omega) rfl
  exact L_2375 _ 0 M hI_M hF_M (by omega) rfl
set_option maxRecDepth 100000 in
theorem dGR_28_c_918 : (decode cX12_readsWays 0 = .ok (.aload_n 0, 1)) ∧ (decode cX12_readsWays 1 = .ok (.iload_n 3, 1)) ∧ (decode cX12_readsWays 2 = .ok (.invokevirtual 297, 3)) ∧ (decode cX12_readsWays 5 = .ok (.istore 4, 2)) ∧ (decode cX12_readsWays 7 = .ok (.aload_n 0, 1)) ∧ (decode cX12_readsWays 8 = .ok (.getfield 53, 3)) ∧ (decode cX12_readsWays 11 = .ok (.iload_n 2, 1)) ∧ (decode cX12_readsWays 12 = .ok (.iaload, 1)) ∧ (decode cX12_readsWays 13 = .ok (.istore 5, 2)) ∧ (decode cX12_readsWays 15 = .ok (.aload_n 0, 1)) ∧ (decode cX12_readsWays 16 = .ok (.getfield 56, 3)) ∧ (decode cX12_readsWays 19 = .ok (.iload_n 2, 1)) := by decide +kernel
theorem dX12_readsWays_0 : decode cX12_readsWays 0 = .ok (.aload_n 0, 1) := dGR_28_c_918.1
theorem dX12_readsWays_1 : decode cX12_readsWays 1 = .ok (.iload_n 3, 1) := dGR_28_c_918.2.1
theorem dX12_readsWays_2 : decode cX12_readsWays 2 = .ok (.invokevirtual 297, 3) := dGR_28_c_918.2.2.1
theorem dX12_readsWays_5 : decode cX12_readsWays 5 = .ok (.istore 4, 2) := dGR_28_c_918.2.2.2.1
theorem dX12_readsWays_7 : decode cX12_readsWays 7 = .ok (.aload_n 0, 1) := dGR_28_c_918.2.2.2.2.1
theorem dX12_readsWays_8 : decode cX12_readsWays 8 = .ok (.getfield 53, 3) := dGR_28_c_918.2.2.2.2.2.1
theorem dX12_readsWays_11 : decode cX12_readsWays 11 = .ok (.iload_n 2, 1) := dGR_28_c_918.2.2.2.2.2.2.1
theorem dX12_readsWays_12 : decode cX12_readsWays 12 = .ok (.iaload, 1) := dGR_28_c_918.2.2.2.2.2.2.2.1
theorem dX12_readsWays_13 : decode cX12_readsWays 13 = .ok (.istore 5, 2) := dGR_28_c_918.2.2.2.2.2.2.2.2.1
theorem dX12_readsWays_15 : decode cX12_readsWays 15 = .ok (.aload_n 0, 1) := dGR_28_c_918.2.2.2.2.2.2.2.2.2.1
theorem dX12_readsWays_16 : decode cX12_readsWays 16 = .ok (.getfield 56, 3) := dGR_28_c_918.2.2.2.2.2.2.2.2.2.2.1
theorem dX12_readsWays_19 : decode cX12_readsWays 19 = .ok (.iload_n 2, 1) := dGR_28_c_918.2.2.2.2.2.2.2.2.2.2.2
set_option maxRecDepth 100000 in
theorem dGR_28_c_919 : (decode cX12_readsWays 20 = .ok (.iload_n 3, 1)) ∧ (decode cX12_readsWays 21 = .ok (.iastore, 1)) ∧ (decode cX12_readsWays 22 = .ok (.aload_n 0, 1)) ∧ (decode cX12_readsWays 23 = .ok (.getfield 53, 3)) ∧ (decode cX12_readsWays 26 = .ok (.iload_n 2, 1)) ∧ (decode cX12_readsWays 27 = .ok (.iconst 1, 1)) ∧ (decode cX12_readsWays 28 = .ok (.iadd, 1)) ∧ (decode cX12_readsWays 29 = .ok (.iload 4, 2)) ∧ (decode cX12_readsWays 31 = .ok (.ifCond .ne 7, 3)) ∧ (decode cX12_readsWays 34 = .ok (.iload_n 2, 1)) ∧ (decode cX12_readsWays 35 = .ok (.goto 27, 3)) ∧ (decode cX12_readsWays 38 = .ok (.iload 4, 2)) := by decide +kernel
theorem dX12_readsWays_20 : decode cX12_readsWays 20 = .ok (.iload_n 3, 1) := dGR_28_c_919.1
theorem dX12_readsWays_21 : decode cX12_readsWays 21 = .ok (.iastore, 1) := dGR_28_c_919.2.1
theorem dX12_readsWays_22 : decode cX12_readsWays 22 = .ok (.aload_n 0, 1) := dGR_28_c_919.2.2.1
theorem dX12_readsWays_23 : decode cX12_readsWays 23 = .ok (.getfield 53, 3) := dGR_28_c_919.2.2.2.1
theorem dX12_readsWays_26 : decode cX12_readsWays 26 = .ok (.iload_n 2, 1) := dGR_28_c_919.2.2.2.2.1
theorem dX12_readsWays_27 : decode cX12_readsWays 27 = .ok (.iconst 1, 1) := dGR_28_c_919.2.2.2.2.2.1
theorem dX12_readsWays_28 : decode cX12_readsWays 28 = .ok (.iadd, 1) := dGR_28_c_919.2.2.2.2.2.2.1
theorem dX12_readsWays_29 : decode cX12_readsWays 29 = .ok (.iload 4, 2) := dGR_28_c_919.2.2.2.2.2.2.2.1
theorem dX12_readsWays_31 : decode cX12_readsWays 31 = .ok (.ifCond .ne 7, 3) := dGR_28_c_919.2.2.2.2.2.2.2.2.1
theorem dX12_readsWays_34 : decode cX12_readsWays 34 = .ok (.iload_n 2, 1) := dGR_28_c_919.2.2.2.2.2.2.2.2.2.1
theorem dX12_readsWays_35 : decode cX12_readsWays 35 = .ok (.goto 27, 3) := dGR_28_c_919.2.2.2.2.2.2.2.2.2.2.1
theorem dX12_readsWays_38 : decode cX12_readsWays 38 = .ok (.iload 4, 2) := dGR_28_c_919.2.2.2.2.2.2.2.2.2.2.2
set_option maxRecDepth 100000 in
theorem dGR_28_c_920 : (decode cX12_readsWays 40 = .ok (.iconst 1, 1)) ∧ (decode cX12_readsWays 41 = .ok (.if_icmp .ne 19, 3)) ∧ (decode cX12_readsWays 44 = .ok (.iload 5, 2)) ∧ (decode cX12_readsWays 46 = .ok (.iconst (-1), 1)) ∧ (decode cX12_readsWays 47 = .ok (.if_icmp .eq 13, 3)) ∧ (decode cX12_readsWays 50 = .ok (.aload_n 0, 1)) ∧ (decode cX12_readsWays 51 = .ok (.getfield 53, 3)) ∧ (decode cX12_readsWays 54 = .ok (.iload 5, 2)) ∧ (decode cX12_readsWays 56 = .ok (.iaload, 1)) ∧ (decode cX12_readsWays 57 = .ok (.goto 5, 3)) ∧ (decode cX12_readsWays 60 = .ok (.iload 5, 2)) ∧ (decode cX12_readsWays 62 = .ok (.iastore, 1)) := by decide +kernel
theorem dX12_readsWays_40 : decode cX12_readsWays 40 = .ok (.iconst 1, 1) := dGR_28_c_920.1
theorem dX12_readsWays_41 : decode cX12_readsWays 41 = .ok (.if_icmp .ne 19, 3) := dGR_28_c_920.2.1
theorem dX12_readsWays_44 : decode cX12_readsWays 44 = .ok (.iload 5, 2) := dGR_28_c_920.2.2.1
theorem dX12_readsWays_46 : decode cX12_readsWays 46 = .ok (.iconst (-1), 1) := dGR_28_c_920.2.2.2.1
theorem dX12_readsWays_47 : decode cX12_readsWays 47 = .ok (.if_icmp .eq 13, 3) := dGR_28_c_920.2.2.2.2.1
theorem dX12_readsWays_50 : decode cX12_readsWays 50 = .ok (.aload_n 0, 1) := dGR_28_c_920.2.2.2.2.2.1
theorem dX12_readsWays_51 : decode cX12_readsWays 51 = .ok (.getfield 53, 3) := dGR_28_c_920.2.2.2.2.2.2.1
theorem dX12_readsWays_54 : decode cX12_readsWays 54 = .ok (.iload 5, 2) := dGR_28_c_920.2.2.2.2.2.2.2.1
theorem dX12_readsWays_56 : decode cX12_readsWays 56 = .ok (.iaload, 1) := dGR_28_c_920.2.2.2.2.2.2.2.2.1
theorem dX12_readsWays_57 : decode cX12_readsWays 57 = .ok (.goto 5, 3) := dGR_28_c_920.2.2.2.2.2.2.2.2.2.1
theorem dX12_readsWays_60 : decode cX12_readsWays 60 = .ok (.iload 5, 2) := dGR_28_c_920.2.2.2.2.2.2.2.2.2.2.1
theorem dX12_readsWays_62 : decode cX12_readsWays 62 = .ok (.iastore, 1) := dGR_28_c_920.2.2.2.2.2.2.2.2.2.2.2
set_option maxRecDepth 100000 in
theorem dGR_28_c_921 : (decode cX12_readsWays 63 = .ok (.iload 4, 2)) ∧ (decode cX12_readsWays 65 = .ok (.iconst 1, 1)) ∧ (decode cX12_readsWays 66 = .ok (.if_icmp .ne 40, 3)) ∧ (decode cX12_readsWays 69 = .ok (.iload 5, 2)) ∧ (decode cX12_readsWays 71 = .ok (.iconst (-1), 1)) ∧ (decode cX12_readsWays 72 = .ok (.if_icmp .eq 34, 3)) ∧ (decode cX12_readsWays 75 = .ok (.aload_n 0, 1)) ∧ (decode cX12_readsWays 76 = .ok (.iload_n 1, 1)) ∧ (decode cX12_readsWays 77 = .ok (.bipush 9, 2)) ∧ (decode cX12_readsWays 79 = .ok (.iload_n 2, 1)) ∧ (decode cX12_readsWays 80 = .ok (.imul, 1)) ∧ (decode cX12_readsWays 81 = .ok (.aload_n 0, 1)) := by decide +kernel
theorem dX12_readsWays_63 : decode cX12_readsWays 63 = .ok (.iload 4, 2) := dGR_28_c_921.1
theorem dX12_readsWays_65 : decode cX12_readsWays 65 = .ok (.iconst 1, 1) := dGR_28_c_921.2.1
theorem dX12_readsWays_66 : decode cX12_readsWays 66 = .ok (.if_icmp .ne 40, 3) := dGR_28_c_921.2.2.1
theorem dX12_readsWays_69 : decode cX12_readsWays 69 = .ok (.iload 5, 2) := dGR_28_c_921.2.2.2.1
theorem dX12_readsWays_71 : decode cX12_readsWays 71 = .ok (.iconst (-1), 1) := dGR_28_c_921.2.2.2.2.1
theorem dX12_readsWays_72 : decode cX12_readsWays 72 = .ok (.if_icmp .eq 34, 3) := dGR_28_c_921.2.2.2.2.2.1
theorem dX12_readsWays_75 : decode cX12_readsWays 75 = .ok (.aload_n 0, 1) := dGR_28_c_921.2.2.2.2.2.2.1
theorem dX12_readsWays_76 : decode cX12_readsWays 76 = .ok (.iload_n 1, 1) := dGR_28_c_921.2.2.2.2.2.2.2.1
theorem dX12_readsWays_77 : decode cX12_readsWays 77 = .ok (.bipush 9, 2) := dGR_28_c_921.2.2.2.2.2.2.2.2.1
theorem dX12_readsWays_79 : decode cX12_readsWays 79 = .ok (.iload_n 2, 1) := dGR_28_c_921.2.2.2.2.2.2.2.2.2.1
theorem dX12_readsWays_80 : decode cX12_readsWays 80 = .ok (.imul, 1) := dGR_28_c_921.2.2.2.2.2.2.2.2.2.2.1
theorem dX12_readsWays_81 : decode cX12_readsWays 81 = .ok (.aload_n 0, 1) := dGR_28_c_921.2.2.2.2.2.2.2.2.2.2.2
set_option maxRecDepth 100000 in
theorem dGR_28_c_922 : (decode cX12_readsWays 82 = .ok (.getfield 56, 3)) ∧ (decode cX12_readsWays 85 = .ok (.iload 5, 2)) ∧ (decode cX12_readsWays 87 = .ok (.iaload, 1)) ∧ (decode cX12_readsWays 88 = .ok (.iload_n 3, 1)) ∧ (decode cX12_readsWays 89 = .ok (.invokevirtual 370, 3)) ∧ (decode cX12_readsWays 92 = .ok (.aload_n 0, 1)) ∧ (decode cX12_readsWays 93 = .ok (.iload 5, 2)) ∧ (decode cX12_readsWays 95 = .ok (.iload_n 2, 1)) ∧ (decode cX12_readsWays 96 = .ok (.iconst 1, 1)) ∧ (decode cX12_readsWays 97 = .ok (.iadd, 1)) ∧ (decode cX12_readsWays 98 = .ok (.aload_n 0, 1)) ∧ (decode cX12_readsWays 99 = .ok (.getfield 65, 3)) := by decide +kernel
theorem dX12_readsWays_82 : decode cX12_readsWays 82 = .ok (.getfield 56, 3) := dGR_28_c_922.1
theorem dX12_readsWays_85 : decode cX12_readsWays 85 = .ok (.iload 5, 2) := dGR_28_c_922.2.1
theorem dX12_readsWays_87 : decode cX12_readsWays 87 = .ok (.iaload, 1) := dGR_28_c_922.2.2.1
theorem dX12_readsWays_88 : decode cX12_readsWays 88 = .ok (.iload_n 3, 1) := dGR_28_c_922.2.2.2.1
theorem dX12_readsWays_89 : decode cX12_readsWays 89 = .ok (.invokevirtual 370, 3) := dGR_28_c_922.2.2.2.2.1
theorem dX12_readsWays_92 : decode cX12_readsWays 92 = .ok (.aload_n 0, 1) := dGR_28_c_922.2.2.2.2.2.1
theorem dX12_readsWays_93 : decode cX12_readsWays 93 = .ok (.iload 5, 2) := dGR_28_c_922.2.2.2.2.2.2.1
theorem dX12_readsWays_95 : decode cX12_readsWays 95 = .ok (.iload_n 2, 1) := dGR_28_c_922.2.2.2.2.2.2.2.1
theorem dX12_readsWays_96 : decode cX12_readsWays 96 = .ok (.iconst 1, 1) := dGR_28_c_922.2.2.2.2.2.2.2.2.1
theorem dX12_readsWays_97 : decode cX12_readsWays 97 = .ok (.iadd, 1) := dGR_28_c_922.2.2.2.2.2.2.2.2.2.1
theorem dX12_readsWays_98 : decode cX12_readsWays 98 = .ok (.aload_n 0, 1) := dGR_28_c_922.2.2.2.2.2.2.2.2.2.2.1
theorem dX12_readsWays_99 : decode cX12_readsWays 99 = .ok (.getfield 65, 3) := dGR_28_c_922.2.2.2.2.2.2.2.2.2.2.2
set_option maxRecDepth 100000 in
theorem dGR_28_c_923 : (decode cX12_readsWays 102 = .ok (.invokevirtual 373, 3)) ∧ (decode cX12_readsWays 105 = .ok (.return_, 1)) ∧ (decode cX12_readsWays 106 = .ok (.aload_n 0, 1)) ∧ (decode cX12_readsWays 107 = .ok (.iload_n 1, 1)) ∧ (decode cX12_readsWays 108 = .ok (.iload_n 3, 1)) ∧ (decode cX12_readsWays 109 = .ok (.iload 4, 2)) ∧ (decode cX12_readsWays 111 = .ok (.ifCond .ne 8, 3)) ∧ (decode cX12_readsWays 114 = .ok (.bipush 7, 2)) ∧ (decode cX12_readsWays 116 = .ok (.goto 5, 3)) ∧ (decode cX12_readsWays 119 = .ok (.bipush 8, 2)) ∧ (decode cX12_readsWays 121 = .ok (.invokevirtual 377, 3)) ∧ (decode cX12_readsWays 124 = .ok (.aload_n 0, 1)) := by decide +kernel
theorem dX12_readsWays_102 : decode cX12_readsWays 102 = .ok (.invokevirtual 373, 3) := dGR_28_c_923.1
theorem dX12_readsWays_105 : decode cX12_readsWays 105 = .ok (.return_, 1) := dGR_28_c_923.2.1
theorem dX12_readsWays_106 : decode cX12_readsWays 106 = .ok (.aload_n 0, 1) := dGR_28_c_923.2.2.1
theorem dX12_readsWays_107 : decode cX12_readsWays 107 = .ok (.iload_n 1, 1) := dGR_28_c_923.2.2.2.1
theorem dX12_readsWays_108 : decode cX12_readsWays 108 = .ok (.iload_n 3, 1) := dGR_28_c_923.2.2.2.2.1
theorem dX12_readsWays_109 : decode cX12_readsWays 109 = .ok (.iload 4, 2) := dGR_28_c_923.2.2.2.2.2.1
theorem dX12_readsWays_111 : decode cX12_readsWays 111 = .ok (.ifCond .ne 8, 3) := dGR_28_c_923.2.2.2.2.2.2.1
theorem dX12_readsWays_114 : decode cX12_readsWays 114 = .ok (.bipush 7, 2) := dGR_28_c_923.2.2.2.2.2.2.2.1
theorem dX12_readsWays_116 : decode cX12_readsWays 116 = .ok (.goto 5, 3) := dGR_28_c_923.2.2.2.2.2.2.2.2.1
theorem dX12_readsWays_119 : decode cX12_readsWays 119 = .ok (.bipush 8, 2) := dGR_28_c_923.2.2.2.2.2.2.2.2.2.1
theorem dX12_readsWays_121 : decode cX12_readsWays 121 = .ok (.invokevirtual 377, 3) := dGR_28_c_923.2.2.2.2.2.2.2.2.2.2.1
theorem dX12_readsWays_124 : decode cX12_readsWays 124 = .ok (.aload_n 0, 1) := dGR_28_c_923.2.2.2.2.2.2.2.2.2.2.2
set_option maxRecDepth 100000 in
theorem dGR_28_c_924 : (decode cX12_readsWays 125 = .ok (.iload_n 2, 1)) ∧ (decode cX12_readsWays 126 = .ok (.iload_n 2, 1)) ∧ (decode cX12_readsWays 127 = .ok (.iconst 1, 1)) ∧ (decode cX12_readsWays 128 = .ok (.iadd, 1)) ∧ (decode cX12_readsWays 129 = .ok (.aload_n 0, 1)) ∧ (decode cX12_readsWays 130 = .ok (.getfield 68, 3)) ∧ (decode cX12_readsWays 133 = .ok (.invokevirtual 373, 3)) ∧ (decode cX12_readsWays 136 = .ok (.iconst 0, 1)) ∧ (decode cX12_readsWays 137 = .ok (.istore 6, 2)) ∧ (decode cX12_readsWays 139 = .ok (.iload 6, 2)) ∧ (decode cX12_readsWays 141 = .ok (.bipush 9, 2)) ∧ (decode cX12_readsWays 143 = .ok (.if_icmp .ge 40, 3)) := by decide +kernel
theorem dX12_readsWays_125 : decode cX12_readsWays 125 = .ok (.iload_n 2, 1) := dGR_28_c_924.1
theorem dX12_readsWays_126 : decode cX12_readsWays 126 = .ok (.iload_n 2, 1) := dGR_28_c_924.2.1
theorem dX12_readsWays_127 : decode cX12_readsWays 127 = .ok (.iconst 1, 1) := dGR_28_c_924.2.2.1
theorem dX12_readsWays_128 : decode cX12_readsWays 128 = .ok (.iadd, 1) := dGR_28_c_924.2.2.2.1
theorem dX12_readsWays_129 : decode cX12_readsWays 129 = .ok (.aload_n 0, 1) := dGR_28_c_924.2.2.2.2.1
theorem dX12_readsWays_130 : decode cX12_readsWays 130 = .ok (.getfield 68, 3) := dGR_28_c_924.2.2.2.2.2.1
theorem dX12_readsWays_133 : decode cX12_readsWays 133 = .ok (.invokevirtual 373, 3) := dGR_28_c_924.2.2.2.2.2.2.1
theorem dX12_readsWays_136 : decode cX12_readsWays 136 = .ok (.iconst 0, 1) := dGR_28_c_924.2.2.2.2.2.2.2.1
theorem dX12_readsWays_137 : decode cX12_readsWays 137 = .ok (.istore 6, 2) := dGR_28_c_924.2.2.2.2.2.2.2.2.1
theorem dX12_readsWays_139 : decode cX12_readsWays 139 = .ok (.iload 6, 2) := dGR_28_c_924.2.2.2.2.2.2.2.2.2.1
theorem dX12_readsWays_141 : decode cX12_readsWays 141 = .ok (.bipush 9, 2) := dGR_28_c_924.2.2.2.2.2.2.2.2.2.2.1
theorem dX12_readsWays_143 : decode cX12_readsWays 143 = .ok (.if_icmp .ge 40, 3) := dGR_28_c_924.2.2.2.2.2.2.2.2.2.2.2
set_option maxRecDepth 100000 in
theorem dGR_28_c_925 : (decode cX12_readsWays 146 = .ok (.iload 4, 2)) ∧ (decode cX12_readsWays 148 = .ok (.ifCond .ne 35, 3)) ∧ (decode cX12_readsWays 151 = .ok (.aload_n 0, 1)) ∧ (decode cX12_readsWays 152 = .ok (.getfield 62, 3)) ∧ (decode cX12_readsWays 155 = .ok (.bipush 9, 2)) ∧ (decode cX12_readsWays 157 = .ok (.iload_n 2, 1)) ∧ (decode cX12_readsWays 158 = .ok (.iconst 1, 1)) ∧ (decode cX12_readsWays 159 = .ok (.iadd, 1)) ∧ (decode cX12_readsWays 160 = .ok (.imul, 1)) ∧ (decode cX12_readsWays 161 = .ok (.iload 6, 2)) ∧ (decode cX12_readsWays 163 = .ok (.iadd, 1)) ∧ (decode cX12_readsWays 164 = .ok (.iload 6, 2)) := by decide +kernel
theorem dX12_readsWays_146 : decode cX12_readsWays 146 = .ok (.iload 4, 2) := dGR_28_c_925.1
theorem dX12_readsWays_148 : decode cX12_readsWays 148 = .ok (.ifCond .ne 35, 3) := dGR_28_c_925.2.1
theorem dX12_readsWays_151 : decode cX12_readsWays 151 = .ok (.aload_n 0, 1) := dGR_28_c_925.2.2.1
theorem dX12_readsWays_152 : decode cX12_readsWays 152 = .ok (.getfield 62, 3) := dGR_28_c_925.2.2.2.1
theorem dX12_readsWays_155 : decode cX12_readsWays 155 = .ok (.bipush 9, 2) := dGR_28_c_925.2.2.2.2.1
theorem dX12_readsWays_157 : decode cX12_readsWays 157 = .ok (.iload_n 2, 1) := dGR_28_c_925.2.2.2.2.2.1
theorem dX12_readsWays_158 : decode cX12_readsWays 158 = .ok (.iconst 1, 1) := dGR_28_c_925.2.2.2.2.2.2.1
theorem dX12_readsWays_159 : decode cX12_readsWays 159 = .ok (.iadd, 1) := dGR_28_c_925.2.2.2.2.2.2.2.1
theorem dX12_readsWays_160 : decode cX12_readsWays 160 = .ok (.imul, 1) := dGR_28_c_925.2.2.2.2.2.2.2.2.1
theorem dX12_readsWays_161 : decode cX12_readsWays 161 = .ok (.iload 6, 2) := dGR_28_c_925.2.2.2.2.2.2.2.2.2.1
theorem dX12_readsWays_163 : decode cX12_readsWays 163 = .ok (.iadd, 1) := dGR_28_c_925.2.2.2.2.2.2.2.2.2.2.1
theorem dX12_readsWays_164 : decode cX12_readsWays 164 = .ok (.iload 6, 2) := dGR_28_c_925.2.2.2.2.2.2.2.2.2.2.2
set_option maxRecDepth 100000 in
theorem dGR_28_c_926 : (decode cX12_readsWays 166 = .ok (.iconst 4, 1)) ∧ (decode cX12_readsWays 167 = .ok (.irem, 1)) ∧ (decode cX12_readsWays 168 = .ok (.ifCond .ne 7, 3)) ∧ (decode cX12_readsWays 171 = .ok (.lconst 1, 1)) ∧ (decode cX12_readsWays 172 = .ok (.goto 4, 3)) ∧ (decode cX12_readsWays 175 = .ok (.lconst 0, 1)) ∧ (decode cX12_readsWays 176 = .ok (.lastore, 1)) ∧ (decode cX12_readsWays 177 = .ok (.iinc 6 1, 3)) ∧ (decode cX12_readsWays 180 = .ok (.goto (-41), 3)) ∧ (decode cX12_readsWays 183 = .ok (.return_, 1)) := by decide +kernel
theorem dX12_readsWays_166 : decode cX12_readsWays 166 = .ok (.iconst 4, 1) := dGR_28_c_926.1
theorem dX12_readsWays_167 : decode cX12_readsWays 167 = .ok (.irem, 1) := dGR_28_c_926.2.1
theorem dX12_readsWays_168 : decode cX12_readsWays 168 = .ok (.ifCond .ne 7, 3) := dGR_28_c_926.2.2.1
theorem dX12_readsWays_171 : decode cX12_readsWays 171 = .ok (.lconst 1, 1) := dGR_28_c_926.2.2.2.1
theorem dX12_readsWays_172 : decode cX12_readsWays 172 = .ok (.goto 4, 3) := dGR_28_c_926.2.2.2.2.1
theorem dX12_readsWays_175 : decode cX12_readsWays 175 = .ok (.lconst 0, 1) := dGR_28_c_926.2.2.2.2.2.1
theorem dX12_readsWays_176 : decode cX12_readsWays 176 = .ok (.lastore, 1) := dGR_28_c_926.2.2.2.2.2.2.1
theorem dX12_readsWays_177 : decode cX12_readsWays 177 = .ok (.iinc 6 1, 3) := dGR_28_c_926.2.2.2.2.2.2.2.1
theorem dX12_readsWays_180 : decode cX12_readsWays 180 = .ok (.goto (-41), 3) := dGR_28_c_926.2.2.2.2.2.2.2.2.1
theorem dX12_readsWays_183 : decode cX12_readsWays 183 = .ok (.return_, 1) := dGR_28_c_926.2.2.2.2.2.2.2.2.2
abbrev f_c_X12_readsWays : List (Nat × Int) := [(75, -1), (76, -1), (77, -1), (78, -1), (79, -1)]
set_option maxHeartbeats 4000000 in
set_option maxRecDepth 100000 in
theorem c_X12_readsWays (G : KG) (l : Launch) (M : Mem) (a1 : Int) (a2 : Int) (a3 : Int) (hI_M : Inv true M) (hpre : -2147483648 ≤ a1 ∧ a1 ≤ 2147483647 ∧ -2147483648 ≤ a2 ∧ a2 ≤ 2147483647 ∧ -2147483648 ≤ a3 ∧ a3 ≤ 2147483647 ∧ 0 ≤ a1 ∧ a1 ≤ 2 ∧ 0 ≤ a2 ∧ a2 ≤ 19 ∧ 0 ≤ a3 ∧ a3 ≤ 5) (hW : WB M a2) : KC true G l yX12_readsWays cX12_readsWays 7 none (2, 52) [vR G 163, vI a1, vI a2, vI a3] M (fun A => kQv true G A (fun (N : Mem) => Inv true N ∧ Fr f_c_X12_readsWays M N ∧ (WB N (a2 + 1)))) := by
  refine kx_met (lo := [some (vR G 163), some (vI a1), some (vI a2), some (vI a3), none, none, none]) (by decide) (Nat.le_of_ble_eq_true rfl) rfl ?_
  intro X F hQ
  have hF_M : Fr f_c_X12_readsWays M M := Fr.rf _ _
  refine kx_aload_n 1 F 0 dX12_readsWays_0 rfl rfl rfl ?_
  refine kx_iload_n 2 F 3 dX12_readsWays_1 rfl rfl rfl ?_
  refine kx_Vi 5 (ci := 0) F (As := [vI a3]) (st := []) vd_X12_297 (c_X12_sortNow G l M a3 hI_M (by omega)) kd_163 rfl rfl rfl ⟨by decide, by decide⟩ rfl rfl (Nat.le_of_ble_eq_true rfl) dX12_readsWays_2 rfl ?_
  intro r_1 N_2 q_3
  obtain ⟨rfl, q_3c⟩ := q_3
  refine kx_istore 7 F 4 (lo' := [some (vR G 163), some (vI a1), some (vI a2), some (vI a3), some (vI r_1), none, none]) dX12_readsWays_5 (by decide) rfl rfl rfl ?_
  have h_4 := WB.bel hW a2 (by omega)
  refine kx_aload_n 8 F 0 dX12_readsWays_7 rfl rfl rfl ?_
  refine kx_getr 11 F fl_X12_53 kd_163 rfl rfl (j := 23) rfl dX12_readsWays_8 (v := 174) (uq_174 (Inv.r hI_M kd_163 rfl 23 rfl rfl)) rfl ?_
  refine kx_iload_n 12 F 2 dX12_readsWays_11 rfl rfl rfl ?_
  refine kx_iald 13 F kd_174 rfl rfl (by omega) (by decide) dX12_readsWays_12 (v := (M 174 a2)) rfl rfl ?_
  have h_5 := Inv.g hI_M kd_174 rfl a2 (a := (-1)) (b := 19) rfl rfl
  refine kx_istore 15 F 5 (lo' := [some (vR G 163), some (vI a1), some (vI a2), some (vI a3), some (vI r_1), some (vI (M 174 a2)), none]) dX12_readsWays_13 (by decide) rfl rfl rfl ?_
  refine kx_aload_n 16 F 0 dX12_readsWays_15 rfl rfl rfl ?_
  refine kx_getr 19 F fl_X12_56 kd_163 rfl rfl (j := 24) rfl dX12_readsWays_16 (v := 175) (uq_175 (Inv.r hI_M kd_163 rfl 24 rfl rfl)) rfl ?_
  refine kx_iload_n 20 F 2 dX12_readsWays_19 rfl rfl rfl ?_
  refine kx_iload_n 21 F 3 dX12_readsWays_20 rfl rfl rfl ?_
  refine kx_iast 22 F kd_175 rfl rfl (by omega) (by decide) dX12_readsWays_21 rfl ?_
  intro N_6 hM_N_6
  have hI_N_6 : Inv true N_6 := Inv.u hI_M hM_N_6 kd_175 (a := 0) (b := 19) rfl rfl rfl (by omega)
  have hF_N_6 : Fr f_c_X12_readsWays M N_6 := Fr.u hF_M hM_N_6 kd_175 rfl
  refine kx_aload_n 23 F 0 dX12_readsWays_22 rfl rfl rfl ?_
  refine kx_getr 26 F fl_X12_53 kd_163 rfl rfl (j := 23) rfl dX12_readsWays_23 (v := 174) (uq_174 (Inv.r hI_N_6 kd_163 rfl 23 rfl rfl)) rfl ?_
  refine kx_iload_n 27 F 2 dX12_readsWays_26 rfl rfl rfl ?_
  refine kx_iconst 28 F dX12_readsWays_27 rfl ?_
  refine kx_iadd 29 F (v := a2 + 1) dX12_readsWays_28 rfl rfl ?_
  refine kx_iload 31 F 4 dX12_readsWays_29 rfl rfl ?_
  have J_20 : ∀ (y0_19 : Int), (-1) ≤ y0_19 ∧ y0_19 ≤ 19 ∧ y0_19 ≤ a2 → KJ true G X N_6 62 [some (vR G 163), some (vI a1), some (vI a2), some (vI a3), some (vI r_1), some (vI (M 174 a2)), none] [vI y0_19, vI (a2 + 1), vR G 174] := by
    intro y0_19 h_21
    refine kx_iast 63 F kd_174 rfl rfl (by omega) (by decide) dX12_readsWays_62 rfl ?_
    intro N_22 hM_N_22
    have hI_N_22 : Inv true N_22 := Inv.u hI_N_6 hM_N_22 kd_174 (a := (-1)) (b := 19) rfl rfl rfl (by omega)
    have hF_N_22 : Fr f_c_X12_readsWays M N_22 := Fr.u hF_N_6 hM_N_22 kd_174 rfl
    refine kx_iload 65 F 4 dX12_readsWays_63 rfl rfl ?_
    refine kx_iconst 66 F dX12_readsWays_65 rfl ?_
    have J_33 : KJ true G X N_22 106 [some (vR G 163), some (vI a1), some (vI a2), some (vI a3), some (vI r_1), none, none] [] := by
      refine kx_aload_n 107 F 0 dX12_readsWays_106 rfl rfl rfl ?_
      refine kx_iload_n 108 F 1 dX12_readsWays_107 rfl rfl rfl ?_
      refine kx_iload_n 109 F 3 dX12_readsWays_108 rfl rfl rfl ?_
      refine kx_iload 111 F 4 dX12_readsWays_109 rfl rfl ?_
      have J_38 : ∀ (y0_37 : Int), 7 ≤ y0_37 ∧ y0_37 ≤ 8 → KJ true G X N_22 121 [some (vR G 163), none, some (vI a2), none, some (vI r_1), none, none] [vI y0_37, vI a3, vI a1, vR G 163] := by
        intro y0_37 h_39
        refine kx_Vv 124 (ci := 0) F (As := [vI a1, vI a3, vI y0_37]) (st := []) vd_X12_377 (c_X12_laysWays G l N_22 a1 a3 y0_37 hI_N_22 (by omega)) kd_163 rfl rfl rfl ⟨by decide, by decide⟩ rfl rfl (Nat.le_of_ble_eq_true rfl) dX12_readsWays_121 rfl ?_
        intro N_40 q_41
        obtain ⟨hI_N_40, hG_N_40⟩ := q_41
        have hF_N_40 : Fr f_c_X12_readsWays M N_40 := Fr.c hF_N_22 hG_N_40 rfl
        refine kx_aload_n 125 F 0 dX12_readsWays_124 rfl rfl rfl ?_
        refine kx_iload_n 126 F 2 dX12_readsWays_125 rfl rfl rfl ?_
        refine kx_iload_n 127 F 2 dX12_readsWays_126 rfl rfl rfl ?_
        refine kx_iconst 128 F dX12_readsWays_127 rfl ?_
        refine kx_iadd 129 F (v := a2 + 1) dX12_readsWays_128 rfl rfl ?_
        refine kx_aload_n 130 F 0 dX12_readsWays_129 rfl rfl rfl ?_
        refine kx_getr 133 F fl_X12_68 kd_163 rfl rfl (j := 28) rfl dX12_readsWays_130 (v := (M 163 28)) (by rw [Fr.e hG_N_40 kd_163 _ rfl, hM_N_22, mu_k kd_163 kd_174 rfl, hM_N_6, mu_k kd_163 kd_175 rfl]) rfl ?_
        have hk_42 : kd (M 163 28) = 79 := Inv.r hI_M kd_163 rfl 28 rfl rfl
        refine kx_Vv 136 (ci := 0) F (As := [vI a2, vI (a2 + 1), vR G (M 163 28)]) (st := []) vd_X12_373 (c_X12_goesOn G l N_40 a2 (a2 + 1) (M 163 28) hI_N_40 hk_42 (by omega)) kd_163 rfl rfl rfl ⟨by decide, by decide⟩ rfl rfl (Nat.le_of_ble_eq_true rfl) dX12_readsWays_133 rfl ?_
        intro N_43 q_44
        obtain ⟨hI_N_43, hG_N_43⟩ := q_44
        have hF_N_43 : Fr f_c_X12_readsWays M N_43 := Fr.c hF_N_40 hG_N_43 rfl
        refine kx_iconst 137 F dX12_readsWays_136 rfl ?_
        refine kx_istore 139 F 6 (lo' := [some (vR G 163), none, some (vI a2), none, some (vI r_1), none, some (vI 0)]) dX12_readsWays_137 (by decide) rfl rfl rfl ?_
        have L_95 : ∀ (n_96 : Nat) (x6_93 : Int) (N_94 : Mem), Inv true N_94 → Fr f_c_X12_readsWays M N_94 → WB N_94 (a2 + 1) → 0 ≤ x6_93 ∧ x6_93 ≤ 9 → (9 - (x6_93)).toNat = n_96 → KJ true G X N_94 139 [some (vR G 163), none, some (vI a2), none, some (vI r_1), none, some (vI x6_93)] [] := by
          intro n_96
          refine Nat.strongRecOn n_96 ?_
          intro n_96 ih_97 x6_93 N_94 hI_N_94 hF_N_94 hp_100 h_98 hm_99
          refine kx_iload 141 F 6 dX12_readsWays_139 rfl rfl ?_
          refine kx_bipush 143 F dX12_readsWays_141 (by decide) rfl ?_
          refine kx_icmp_ge 146 F 183 dX12_readsWays_143 (by decide) rfl (by omega) (by decide) (fun h_101 => ?_) (fun h_101 => ?_)
          · exact kx_vret F hQ ⟨hI_N_94, hF_N_94, hp_100⟩ dX12_readsWays_183
          · refine kx_iload 148 F 4 dX12_readsWays_146 rfl rfl ?_
            refine kx_if_ne 151 F 183 dX12_readsWays_148 (by decide) rfl (by omega) (fun h_102 => ?_) (fun h_102 => ?_)
            · exact kx_vret F hQ ⟨hI_N_94, hF_N_94, hp_100⟩ dX12_readsWays_183
            · refine kx_aload_n 152 F 0 dX12_readsWays_151 rfl rfl rfl ?_
              refine kx_getr 155 F fl_X12_62 kd_163 rfl rfl (j := 26) rfl dX12_readsWays_152 (v := 177) (uq_177 (Inv.r hI_N_94 kd_163 rfl 26 rfl rfl)) rfl ?_
              refine kx_bipush 157 F dX12_readsWays_155 (by decide) rfl ?_
              refine kx_iload_n 158 F 2 dX12_readsWays_157 rfl rfl rfl ?_
              refine kx_iconst 159 F dX12_readsWays_158 rfl ?_
              refine kx_iadd 160 F (v := a2 + 1) dX12_readsWays_159 rfl rfl ?_
              refine kx_imul 161 F (v := 9 * a2 + 9) dX12_readsWays_160 (by omega) rfl ?_
              refine kx_iload 163 F 6 dX12_readsWays_161 rfl rfl ?_
              refine kx_iadd 164 F (v := 9 * a2 + x6_93 + 9) dX12_readsWays_163 (by omega) rfl ?_
              refine kx_iload 166 F 6 dX12_readsWays_164 rfl rfl ?_
              refine kx_iconst 167 F dX12_readsWays_166 rfl ?_
              refine kx_irem 168 F (v := (x6_93 % 4)) dX12_readsWays_167 (by omega) (by decide) rfl rfl ?_
              have J_106 : ∀ (y0_105 : Int), 0 ≤ y0_105 ∧ y0_105 ≤ 1 → KJ true G X N_94 176 [some (vR G 163), none, some (vI a2), none, some (vI r_1), none, some (vI x6_93)] [vL y0_105, vI (9 * a2 + x6_93 + 9), vR G 177] := by
                intro y0_105 h_107
                refine kx_last 177 F kd_177 rfl rfl (by omega) (by decide) dX12_readsWays_176 rfl ?_
                intro N_108 hM_N_108
                have hI_N_108 : Inv true N_108 := Inv.u hI_N_94 hM_N_108 kd_177 (a := (-9223372036854775808)) (b := 9223372036854775807) rfl rfl rfl (by omega)
                have hF_N_108 : Fr f_c_X12_readsWays M N_108 := Fr.u hF_N_94 hM_N_108 kd_177 rfl
                refine kx_iinc 180 F 6 (v := x6_93 + 1) (lo' := [some (vR G 163), none, some (vI a2), none, some (vI r_1), none, some (vI (x6_93 + 1))]) dX12_readsWays_177 rfl (by omega) (by decide) rfl rfl rfl ?_
                refine kx_goto 139 F dX12_readsWays_180 (by decide) ?_
                have hp_109 : WB N_108 (a2 + 1) := WB.st hp_100 hM_N_108 kd_177 rfl rfl
                exact ih_97 _ (by omega) (x6_93 + 1) N_108 hI_N_108 hF_N_108 hp_109 (by omega) rfl
              refine kx_if_ne 171 F 175 dX12_readsWays_168 (by decide) rfl (by omega) (fun h_110 => ?_) (fun h_110 => ?_)
              · refine kx_lconst 176 (z := 0) F dX12_readsWays_175 (by decide) rfl ?_
                exact J_106 0 (by omega)
              · refine kx_lconst 172 (z := 1) F dX12_readsWays_171 (by decide) rfl ?_
                refine kx_goto 176 F dX12_readsWays_172 (by decide) ?_
                exact J_106 1 (by omega)
        have e_111 : (N_43 175 a2) = a3 := by rw [Fr.e hG_N_43 kd_175 _ rfl, Fr.e hG_N_40 kd_175 _ rfl, hM_N_22, mu_k kd_175 kd_174 rfl, hM_N_6, mu_s]
        have e_112 : (N_43 174 (a2 + 1)) = y0_19 := by rw [Fr.e hG_N_43 kd_174 _ rfl, Fr.e hG_N_40 kd_174 _ rfl, hM_N_22, mu_s]
        exact L_95 _ 0 N_43 hI_N_43 hF_N_43 (WB.step hW (by omega) (fun j hj => by rw [Fr.e hG_N_43 kd_175 _ rfl, Fr.e hG_N_40 kd_175 _ rfl, hM_N_22, mu_k kd_175 kd_174 rfl, hM_N_6, mu_i (by omega)]) (by omega) (fun j hj => by rw [Fr.e hG_N_43 kd_174 _ rfl, Fr.e hG_N_40 kd_174 _ rfl, hM_N_22, mu_i (by omega), hM_N_6, mu_k kd_174 kd_175 rfl]) (by omega)) (by omega) rfl
      refine kx_if_ne 114 F 119 dX12_readsWays_111 (by decide) rfl (by omega) (fun h_113 => ?_) (fun h_113 => ?_)
      · refine kx_bipush 121 F dX12_readsWays_119 (by decide) rfl ?_
        refine kx_drop 1 (lo' := [some (vR G 163), none, some (vI a2), some (vI a3), some (vI r_1), none, none]) rfl ?_
        refine kx_drop 3 (lo' := [some (vR G 163), none, some (vI a2), none, some (vI r_1), none, none]) rfl ?_
        exact J_38 8 (by omega)
      · refine kx_bipush 116 F dX12_readsWays_114 (by decide) rfl ?_
        refine kx_goto 121 F dX12_readsWays_116 (by decide) ?_
        refine kx_drop 1 (lo' := [some (vR G 163), none, some (vI a2), some (vI a3), some (vI r_1), none, none]) rfl ?_
        refine kx_drop 3 (lo' := [some (vR G 163), none, some (vI a2), none, some (vI r_1), none, none]) rfl ?_
        exact J_38 7 (by omega)
    refine kx_icmp_ne 69 F 106 dX12_readsWays_66 (by decide) rfl (by omega) (by decide) (fun h_114 => ?_) (fun h_114 => ?_)
    · refine kx_drop 5 (lo' := [some (vR G 163), some (vI a1), some (vI a2), some (vI a3), some (vI r_1), none, none]) rfl ?_
      exact J_33 
    · refine kx_iload 71 F 5 dX12_readsWays_69 rfl rfl ?_
      refine kx_iconst 72 F dX12_readsWays_71 rfl ?_
      refine kx_icmp_eq 75 F 106 dX12_readsWays_72 (by decide) rfl (by omega) (by decide) (fun h_115 => ?_) (fun h_115 => ?_)
      · refine kx_drop 5 (lo' := [some (vR G 163), some (vI a1), some (vI a2), some (vI a3), some (vI r_1), none, none]) rfl ?_
        exact J_33 
      · have h_116 := WB.bel hW (M 174 a2) (by omega)
        have h_117 := WB.let hW (M 174 a2) (by omega)
        refine kx_aload_n 76 F 0 dX12_readsWays_75 rfl rfl rfl ?_
        refine kx_iload_n 77 F 1 dX12_readsWays_76 rfl rfl rfl ?_
        refine kx_bipush 79 F dX12_readsWays_77 (by decide) rfl ?_
        refine kx_iload_n 80 F 2 dX12_readsWays_79 rfl rfl rfl ?_
        refine kx_imul 81 F (v := 9 * a2) dX12_readsWays_80 (by omega) rfl ?_
        refine kx_aload_n 82 F 0 dX12_readsWays_81 rfl rfl rfl ?_
        refine kx_getr 85 F fl_X12_56 kd_163 rfl rfl (j := 24) rfl dX12_readsWays_82 (v := 175) (uq_175 (Inv.r hI_N_22 kd_163 rfl 24 rfl rfl)) rfl ?_
        refine kx_iload 87 F 5 dX12_readsWays_85 rfl rfl ?_
        refine kx_iald 88 F kd_175 rfl rfl (by omega) (by decide) dX12_readsWays_87 (v := (M 175 (M 174 a2))) (by rw [hM_N_22, mu_k kd_175 kd_174 rfl, hM_N_6, mu_i (by omega)]) rfl ?_
        have h_118 := Inv.g hI_M kd_175 rfl (M 174 a2) (a := 0) (b := 19) rfl rfl
        refine kx_iload_n 89 F 3 dX12_readsWays_88 rfl rfl rfl ?_
        refine kx_Vv 92 (ci := 0) F (As := [vI a1, vI (9 * a2), vI (M 175 (M 174 a2)), vI a3]) (st := []) vd_X12_370 (c_X12_laysOver G l N_22 a1 (9 * a2) (M 175 (M 174 a2)) a3 hI_N_22 (by omega)) kd_163 rfl rfl rfl ⟨by decide, by decide⟩ rfl rfl (Nat.le_of_ble_eq_true rfl) dX12_readsWays_89 rfl ?_
        intro N_119 q_120
        obtain ⟨hI_N_119, hG_N_119⟩ := q_120
        have hF_N_119 : Fr f_c_X12_readsWays M N_119 := Fr.c hF_N_22 hG_N_119 rfl
        refine kx_aload_n 93 F 0 dX12_readsWays_92 rfl rfl rfl ?_
        refine kx_iload 95 F 5 dX12_readsWays_93 rfl rfl ?_
        refine kx_iload_n 96 F 2 dX12_readsWays_95 rfl rfl rfl ?_
        refine kx_iconst 97 F dX12_readsWays_96 rfl ?_
        refine kx_iadd 98 F (v := a2 + 1) dX12_readsWays_97 rfl rfl ?_
        refine kx_aload_n 99 F 0 dX12_readsWays_98 rfl rfl rfl ?_
        refine kx_getr 102 F fl_X12_65 kd_163 rfl rfl (j := 27) rfl dX12_readsWays_99 (v := (M 163 27)) (by rw [Fr.e hG_N_119 kd_163 _ rfl, hM_N_22, mu_k kd_163 kd_174 rfl, hM_N_6, mu_k kd_163 kd_175 rfl]) rfl ?_
        have hk_121 : kd (M 163 27) = 79 := Inv.r hI_M kd_163 rfl 27 rfl rfl
        refine kx_Vv 105 (ci := 0) F (As := [vI (M 174 a2), vI (a2 + 1), vR G (M 163 27)]) (st := []) vd_X12_373 (c_X12_goesOn G l N_119 (M 174 a2) (a2 + 1) (M 163 27) hI_N_119 hk_121 (by omega)) kd_163 rfl rfl rfl ⟨by decide, by decide⟩ rfl rfl (Nat.le_of_ble_eq_true rfl) dX12_readsWays_102 rfl ?_
        intro N_122 q_123
        obtain ⟨hI_N_122, hG_N_122⟩ := q_123
        have hF_N_122 : Fr f_c_X12_readsWays M N_122 := Fr.c hF_N_119 hG_N_122 rfl
        have e_124 : (N_122 175 a2) = a3 := by rw [Fr.e hG_N_122 kd_175 _ rfl, Fr.e hG_N_119 kd_175 _ rfl, hM_N_22, mu_k kd_175 kd_174 rfl, hM_N_6, mu_s]
        have e_125 : (N_122 174 (a2 + 1)) = y0_19 := by rw [Fr.e hG_N_122 kd_174 _ rfl, Fr.e hG_N_119 kd_174 _ rfl, hM_N_22, mu_s]
        exact kx_vret F hQ ⟨hI_N_122, hF_N_122, (WB.step hW (by omega) (fun j hj => by rw [Fr.e hG_N_122 kd_175 _ rfl, Fr.e hG_N_119 kd_175 _ rfl, hM_N_22, mu_k kd_175 kd_174 rfl, hM_N_6, mu_i (by omega)]) (by omega) (fun j hj => by rw [Fr.e hG_N_122 kd_174 _ rfl, Fr.e hG_N_119 kd_174 _ rfl, hM_N_22, mu_i (by omega), hM_N_6, mu_k kd_174 kd_175 rfl]) (by omega))⟩ dX12_readsWays_105
  refine kx_if_ne 34 F 38 dX12_readsWays_31 (by decide) rfl (by omega) (fun h_126 => ?_) (fun h_126 => ?_)
  · refine kx_iload 40 F 4 dX12_readsWays_38 rfl rfl ?_
    refine kx_iconst 41 F dX12_readsWays_40 rfl ?_
    have J_143 : KJ true G X N_6 60 [some (vR G 163), some (vI a1), some (vI a2), some (vI a3), some (vI r_1), some (vI (M 174 a2)), none] [vI (a2 + 1), vR G 174] := by
      refine kx_iload 62 F 5 dX12_readsWays_60 rfl rfl ?_
      exact J_20 (M 174 a2) (by omega)
    refine kx_icmp_ne 44 F 60 dX12_readsWays_41 (by decide) rfl (by omega) (by decide) (fun h_145 => ?_) (fun h_145 => ?_)
    · exact J_143
    · refine kx_iload 46 F 5 dX12_readsWays_44 rfl rfl ?_
      refine kx_iconst 47 F dX12_readsWays_46 rfl ?_
      refine kx_icmp_eq 50 F 60 dX12_readsWays_47 (by decide) rfl (by omega) (by decide) (fun h_146 => ?_) (fun h_146 => ?_)
      · exact J_143
      · have h_147 := WB.bel hW (M 174 a2) (by omega)
        have h_148 := WB.let hW (M 174 a2) (by omega)
        refine kx_aload_n 51 F 0 dX12_readsWays_50 rfl rfl rfl ?_
        refine kx_getr 54 F fl_X12_53 kd_163 rfl rfl (j := 23) rfl dX12_readsWays_51 (v := 174) (uq_174 (Inv.r hI_N_6 kd_163 rfl 23 rfl rfl)) rfl ?_
        refine kx_iload 56 F 5 dX12_readsWays_54 rfl rfl ?_
        refine kx_iald 57 F kd_174 rfl rfl (by omega) (by decide) dX12_readsWays_56 (v := (M 174 (M 174 a2))) (by rw [hM_N_6, mu_k kd_174 kd_175 rfl]) rfl ?_
        have h_149 := Inv.g hI_M kd_174 rfl (M 174 a2) (a := (-1)) (b := 19) rfl rfl
        refine kx_goto 62 F dX12_readsWays_57 (by decide) ?_
        exact J_20 (M 174 (M 174 a2)) (by omega)
  · refine kx_iload_n 35 F 2 dX12_readsWays_34 rfl rfl rfl ?_
    refine kx_goto 62 F dX12_readsWays_35 (by decide) ?_
    exact J_20 a2 (by omega)
set_option maxRecDepth 100000 in
theorem dGR_28_c_927 : (decode cX12_runs 0 = .ok (.aload_n 0, 1)) ∧ (decode cX12_runs 1 = .ok (.iload_n 1, 1)) ∧ (decode cX12_runs 2 = .ok (.invokevirtual 282, 3)) ∧ (decode cX12_runs 5 = .ok (.ifCond .eq 12, 3)) ∧ (decode cX12_runs 8 = .ok (.aload_n 0, 1)) ∧ (decode cX12_runs 9 = .ok (.iload_n 2, 1)) ∧ (decode cX12_runs 10 = .ok (.iload_n 3, 1)) ∧ (decode cX12_runs 11 = .ok (.invokevirtual 358, 3)) ∧ (decode cX12_runs 14 = .ok (.ifCond .ne 9, 3)) ∧ (decode cX12_runs 17 = .ok (.aload_n 0, 1)) ∧ (decode cX12_runs 18 = .ok (.iconst 1, 1)) ∧ (decode cX12_runs 19 = .ok (.invokevirtual 130, 3)) := by decide +kernel
theorem dX12_runs_0 : decode cX12_runs 0 = .ok (.aload_n 0, 1) := dGR_28_c_927.1
theorem dX12_runs_1 : decode cX12_runs 1 = .ok (.iload_n 1, 1) := dGR_28_c_927.2.1
theorem dX12_runs_2 : decode cX12_runs 2 = .ok (.invokevirtual 282, 3) := dGR_28_c_927.2.2.1
theorem dX12_runs_5 : decode cX12_runs 5 = .ok (.ifCond .eq 12, 3) := dGR_28_c_927.2.2.2.1
theorem dX12_runs_8 : decode cX12_runs 8 = .ok (.aload_n 0, 1) := dGR_28_c_927.2.2.2.2.1
theorem dX12_runs_9 : decode cX12_runs 9 = .ok (.iload_n 2, 1) := dGR_28_c_927.2.2.2.2.2.1
theorem dX12_runs_10 : decode cX12_runs 10 = .ok (.iload_n 3, 1) := dGR_28_c_927.2.2.2.2.2.2.1
theorem dX12_runs_11 : decode cX12_runs 11 = .ok (.invokevirtual 358, 3) := dGR_28_c_927.2.2.2.2.2.2.2.1
theorem dX12_runs_14 : decode cX12_runs 14 = .ok (.ifCond .ne 9, 3) := dGR_28_c_927.2.2.2.2.2.2.2.2.1
theorem dX12_runs_17 : decode cX12_runs 17 = .ok (.aload_n 0, 1) := dGR_28_c_927.2.2.2.2.2.2.2.2.2.1
theorem dX12_runs_18 : decode cX12_runs 18 = .ok (.iconst 1, 1) := dGR_28_c_927.2.2.2.2.2.2.2.2.2.2.1
theorem dX12_runs_19 : decode cX12_runs 19 = .ok (.invokevirtual 130, 3) := dGR_28_c_927.2.2.2.2.2.2.2.2.2.2.2
set_option maxRecDepth 100000 in
theorem dGR_28_c_928 : (decode cX12_runs 22 = .ok (.ireturn, 1)) ∧ (decode cX12_runs 23 = .ok (.aload_n 0, 1)) ∧ (decode cX12_runs 24 = .ok (.iload_n 2, 1)) ∧ (decode cX12_runs 25 = .ok (.iload_n 3, 1)) ∧ (decode cX12_runs 26 = .ok (.invokevirtual 361, 3)) ∧ (decode cX12_runs 29 = .ok (.istore 4, 2)) ∧ (decode cX12_runs 31 = .ok (.iload 4, 2)) ∧ (decode cX12_runs 33 = .ok (.ifCond .le 10, 3)) ∧ (decode cX12_runs 36 = .ok (.aload_n 0, 1)) ∧ (decode cX12_runs 37 = .ok (.iload 4, 2)) ∧ (decode cX12_runs 39 = .ok (.invokevirtual 130, 3)) ∧ (decode cX12_runs 42 = .ok (.ireturn, 1)) := by decide +kernel
theorem dX12_runs_22 : decode cX12_runs 22 = .ok (.ireturn, 1) := dGR_28_c_928.1
theorem dX12_runs_23 : decode cX12_runs 23 = .ok (.aload_n 0, 1) := dGR_28_c_928.2.1
theorem dX12_runs_24 : decode cX12_runs 24 = .ok (.iload_n 2, 1) := dGR_28_c_928.2.2.1
theorem dX12_runs_25 : decode cX12_runs 25 = .ok (.iload_n 3, 1) := dGR_28_c_928.2.2.2.1
theorem dX12_runs_26 : decode cX12_runs 26 = .ok (.invokevirtual 361, 3) := dGR_28_c_928.2.2.2.2.1
theorem dX12_runs_29 : decode cX12_runs 29 = .ok (.istore 4, 2) := dGR_28_c_928.2.2.2.2.2.1
theorem dX12_runs_31 : decode cX12_runs 31 = .ok (.iload 4, 2) := dGR_28_c_928.2.2.2.2.2.2.1
theorem dX12_runs_33 : decode cX12_runs 33 = .ok (.ifCond .le 10, 3) := dGR_28_c_928.2.2.2.2.2.2.2.1
theorem dX12_runs_36 : decode cX12_runs 36 = .ok (.aload_n 0, 1) := dGR_28_c_928.2.2.2.2.2.2.2.2.1
theorem dX12_runs_37 : decode cX12_runs 37 = .ok (.iload 4, 2) := dGR_28_c_928.2.2.2.2.2.2.2.2.2.1
theorem dX12_runs_39 : decode cX12_runs 39 = .ok (.invokevirtual 130, 3) := dGR_28_c_928.2.2.2.2.2.2.2.2.2.2.1
theorem dX12_runs_42 : decode cX12_runs 42 = .ok (.ireturn, 1) := dGR_28_c_928.2.2.2.2.2.2.2.2.2.2.2
set_option maxRecDepth 100000 in
theorem dGR_28_c_929 : (decode cX12_runs 43 = .ok (.aload_n 0, 1)) ∧ (decode cX12_runs 44 = .ok (.invokevirtual 342, 3)) ∧ (decode cX12_runs 47 = .ok (.aload_n 0, 1)) ∧ (decode cX12_runs 48 = .ok (.getfield 53, 3)) ∧ (decode cX12_runs 51 = .ok (.iconst 0, 1)) ∧ (decode cX12_runs 52 = .ok (.iconst (-1), 1)) ∧ (decode cX12_runs 53 = .ok (.iastore, 1)) ∧ (decode cX12_runs 54 = .ok (.iconst 0, 1)) ∧ (decode cX12_runs 55 = .ok (.istore 5, 2)) ∧ (decode cX12_runs 57 = .ok (.iload 5, 2)) ∧ (decode cX12_runs 59 = .ok (.iconst 3, 1)) ∧ (decode cX12_runs 60 = .ok (.if_icmp .ge 36, 3)) := by decide +kernel
theorem dX12_runs_43 : decode cX12_runs 43 = .ok (.aload_n 0, 1) := dGR_28_c_929.1
theorem dX12_runs_44 : decode cX12_runs 44 = .ok (.invokevirtual 342, 3) := dGR_28_c_929.2.1
theorem dX12_runs_47 : decode cX12_runs 47 = .ok (.aload_n 0, 1) := dGR_28_c_929.2.2.1
theorem dX12_runs_48 : decode cX12_runs 48 = .ok (.getfield 53, 3) := dGR_28_c_929.2.2.2.1
theorem dX12_runs_51 : decode cX12_runs 51 = .ok (.iconst 0, 1) := dGR_28_c_929.2.2.2.2.1
theorem dX12_runs_52 : decode cX12_runs 52 = .ok (.iconst (-1), 1) := dGR_28_c_929.2.2.2.2.2.1
theorem dX12_runs_53 : decode cX12_runs 53 = .ok (.iastore, 1) := dGR_28_c_929.2.2.2.2.2.2.1
theorem dX12_runs_54 : decode cX12_runs 54 = .ok (.iconst 0, 1) := dGR_28_c_929.2.2.2.2.2.2.2.1
theorem dX12_runs_55 : decode cX12_runs 55 = .ok (.istore 5, 2) := dGR_28_c_929.2.2.2.2.2.2.2.2.1
theorem dX12_runs_57 : decode cX12_runs 57 = .ok (.iload 5, 2) := dGR_28_c_929.2.2.2.2.2.2.2.2.2.1
theorem dX12_runs_59 : decode cX12_runs 59 = .ok (.iconst 3, 1) := dGR_28_c_929.2.2.2.2.2.2.2.2.2.2.1
theorem dX12_runs_60 : decode cX12_runs 60 = .ok (.if_icmp .ge 36, 3) := dGR_28_c_929.2.2.2.2.2.2.2.2.2.2.2
set_option maxRecDepth 100000 in
theorem dGR_28_c_930 : (decode cX12_runs 63 = .ok (.aload_n 0, 1)) ∧ (decode cX12_runs 64 = .ok (.getfield 59, 3)) ∧ (decode cX12_runs 67 = .ok (.iload 5, 2)) ∧ (decode cX12_runs 69 = .ok (.aload_n 0, 1)) ∧ (decode cX12_runs 70 = .ok (.aload_n 0, 1)) ∧ (decode cX12_runs 71 = .ok (.iload_n 1, 1)) ∧ (decode cX12_runs 72 = .ok (.iconst 2, 1)) ∧ (decode cX12_runs 73 = .ok (.invokevirtual 288, 3)) ∧ (decode cX12_runs 76 = .ok (.iload 5, 2)) ∧ (decode cX12_runs 78 = .ok (.invokevirtual 239, 3)) ∧ (decode cX12_runs 81 = .ok (.ifCond .eq 7, 3)) ∧ (decode cX12_runs 84 = .ok (.lconst 1, 1)) := by decide +kernel
theorem dX12_runs_63 : decode cX12_runs 63 = .ok (.aload_n 0, 1) := dGR_28_c_930.1
theorem dX12_runs_64 : decode cX12_runs 64 = .ok (.getfield 59, 3) := dGR_28_c_930.2.1
theorem dX12_runs_67 : decode cX12_runs 67 = .ok (.iload 5, 2) := dGR_28_c_930.2.2.1
theorem dX12_runs_69 : decode cX12_runs 69 = .ok (.aload_n 0, 1) := dGR_28_c_930.2.2.2.1
theorem dX12_runs_70 : decode cX12_runs 70 = .ok (.aload_n 0, 1) := dGR_28_c_930.2.2.2.2.1
theorem dX12_runs_71 : decode cX12_runs 71 = .ok (.iload_n 1, 1) := dGR_28_c_930.2.2.2.2.2.1
theorem dX12_runs_72 : decode cX12_runs 72 = .ok (.iconst 2, 1) := dGR_28_c_930.2.2.2.2.2.2.1
theorem dX12_runs_73 : decode cX12_runs 73 = .ok (.invokevirtual 288, 3) := dGR_28_c_930.2.2.2.2.2.2.2.1
theorem dX12_runs_76 : decode cX12_runs 76 = .ok (.iload 5, 2) := dGR_28_c_930.2.2.2.2.2.2.2.2.1
theorem dX12_runs_78 : decode cX12_runs 78 = .ok (.invokevirtual 239, 3) := dGR_28_c_930.2.2.2.2.2.2.2.2.2.1
theorem dX12_runs_81 : decode cX12_runs 81 = .ok (.ifCond .eq 7, 3) := dGR_28_c_930.2.2.2.2.2.2.2.2.2.2.1
theorem dX12_runs_84 : decode cX12_runs 84 = .ok (.lconst 1, 1) := dGR_28_c_930.2.2.2.2.2.2.2.2.2.2.2
set_option maxRecDepth 100000 in
theorem dGR_28_c_931 : (decode cX12_runs 85 = .ok (.goto 4, 3)) ∧ (decode cX12_runs 88 = .ok (.lconst 0, 1)) ∧ (decode cX12_runs 89 = .ok (.lastore, 1)) ∧ (decode cX12_runs 90 = .ok (.iinc 5 1, 3)) ∧ (decode cX12_runs 93 = .ok (.goto (-36), 3)) ∧ (decode cX12_runs 96 = .ok (.iconst 0, 1)) ∧ (decode cX12_runs 97 = .ok (.istore 5, 2)) ∧ (decode cX12_runs 99 = .ok (.iload 5, 2)) ∧ (decode cX12_runs 101 = .ok (.bipush 9, 2)) ∧ (decode cX12_runs 103 = .ok (.if_icmp .ge 28, 3)) ∧ (decode cX12_runs 106 = .ok (.aload_n 0, 1)) ∧ (decode cX12_runs 107 = .ok (.getfield 62, 3)) := by decide +kernel
theorem dX12_runs_85 : decode cX12_runs 85 = .ok (.goto 4, 3) := dGR_28_c_931.1
theorem dX12_runs_88 : decode cX12_runs 88 = .ok (.lconst 0, 1) := dGR_28_c_931.2.1
theorem dX12_runs_89 : decode cX12_runs 89 = .ok (.lastore, 1) := dGR_28_c_931.2.2.1
theorem dX12_runs_90 : decode cX12_runs 90 = .ok (.iinc 5 1, 3) := dGR_28_c_931.2.2.2.1
theorem dX12_runs_93 : decode cX12_runs 93 = .ok (.goto (-36), 3) := dGR_28_c_931.2.2.2.2.1
theorem dX12_runs_96 : decode cX12_runs 96 = .ok (.iconst 0, 1) := dGR_28_c_931.2.2.2.2.2.1
theorem dX12_runs_97 : decode cX12_runs 97 = .ok (.istore 5, 2) := dGR_28_c_931.2.2.2.2.2.2.1
theorem dX12_runs_99 : decode cX12_runs 99 = .ok (.iload 5, 2) := dGR_28_c_931.2.2.2.2.2.2.2.1
theorem dX12_runs_101 : decode cX12_runs 101 = .ok (.bipush 9, 2) := dGR_28_c_931.2.2.2.2.2.2.2.2.1
theorem dX12_runs_103 : decode cX12_runs 103 = .ok (.if_icmp .ge 28, 3) := dGR_28_c_931.2.2.2.2.2.2.2.2.2.1
theorem dX12_runs_106 : decode cX12_runs 106 = .ok (.aload_n 0, 1) := dGR_28_c_931.2.2.2.2.2.2.2.2.2.2.1
theorem dX12_runs_107 : decode cX12_runs 107 = .ok (.getfield 62, 3) := dGR_28_c_931.2.2.2.2.2.2.2.2.2.2.2
set_option maxRecDepth 100000 in
theorem dGR_28_c_932 : (decode cX12_runs 110 = .ok (.iload 5, 2)) ∧ (decode cX12_runs 112 = .ok (.iload 5, 2)) ∧ (decode cX12_runs 114 = .ok (.iconst 4, 1)) ∧ (decode cX12_runs 115 = .ok (.irem, 1)) ∧ (decode cX12_runs 116 = .ok (.ifCond .ne 7, 3)) ∧ (decode cX12_runs 119 = .ok (.lconst 1, 1)) ∧ (decode cX12_runs 120 = .ok (.goto 4, 3)) ∧ (decode cX12_runs 123 = .ok (.lconst 0, 1)) ∧ (decode cX12_runs 124 = .ok (.lastore, 1)) ∧ (decode cX12_runs 125 = .ok (.iinc 5 1, 3)) ∧ (decode cX12_runs 128 = .ok (.goto (-29), 3)) ∧ (decode cX12_runs 131 = .ok (.iconst 0, 1)) := by decide +kernel
theorem dX12_runs_110 : decode cX12_runs 110 = .ok (.iload 5, 2) := dGR_28_c_932.1
theorem dX12_runs_112 : decode cX12_runs 112 = .ok (.iload 5, 2) := dGR_28_c_932.2.1
theorem dX12_runs_114 : decode cX12_runs 114 = .ok (.iconst 4, 1) := dGR_28_c_932.2.2.1
theorem dX12_runs_115 : decode cX12_runs 115 = .ok (.irem, 1) := dGR_28_c_932.2.2.2.1
theorem dX12_runs_116 : decode cX12_runs 116 = .ok (.ifCond .ne 7, 3) := dGR_28_c_932.2.2.2.2.1
theorem dX12_runs_119 : decode cX12_runs 119 = .ok (.lconst 1, 1) := dGR_28_c_932.2.2.2.2.2.1
theorem dX12_runs_120 : decode cX12_runs 120 = .ok (.goto 4, 3) := dGR_28_c_932.2.2.2.2.2.2.1
theorem dX12_runs_123 : decode cX12_runs 123 = .ok (.lconst 0, 1) := dGR_28_c_932.2.2.2.2.2.2.2.1
theorem dX12_runs_124 : decode cX12_runs 124 = .ok (.lastore, 1) := dGR_28_c_932.2.2.2.2.2.2.2.2.1
theorem dX12_runs_125 : decode cX12_runs 125 = .ok (.iinc 5 1, 3) := dGR_28_c_932.2.2.2.2.2.2.2.2.2.1
theorem dX12_runs_128 : decode cX12_runs 128 = .ok (.goto (-29), 3) := dGR_28_c_932.2.2.2.2.2.2.2.2.2.2.1
theorem dX12_runs_131 : decode cX12_runs 131 = .ok (.iconst 0, 1) := dGR_28_c_932.2.2.2.2.2.2.2.2.2.2.2
set_option maxRecDepth 100000 in
theorem dGR_28_c_933 : (decode cX12_runs 132 = .ok (.istore 5, 2)) ∧ (decode cX12_runs 134 = .ok (.iload 5, 2)) ∧ (decode cX12_runs 136 = .ok (.iload_n 3, 1)) ∧ (decode cX12_runs 137 = .ok (.if_icmp .ge 23, 3)) ∧ (decode cX12_runs 140 = .ok (.aload_n 0, 1)) ∧ (decode cX12_runs 141 = .ok (.iload_n 1, 1)) ∧ (decode cX12_runs 142 = .ok (.iload 5, 2)) ∧ (decode cX12_runs 144 = .ok (.aload_n 0, 1)) ∧ (decode cX12_runs 145 = .ok (.iload_n 2, 1)) ∧ (decode cX12_runs 146 = .ok (.iload 5, 2)) ∧ (decode cX12_runs 148 = .ok (.invokevirtual 349, 3)) ∧ (decode cX12_runs 151 = .ok (.invokevirtual 381, 3)) := by decide +kernel
theorem dX12_runs_132 : decode cX12_runs 132 = .ok (.istore 5, 2) := dGR_28_c_933.1
theorem dX12_runs_134 : decode cX12_runs 134 = .ok (.iload 5, 2) := dGR_28_c_933.2.1
theorem dX12_runs_136 : decode cX12_runs 136 = .ok (.iload_n 3, 1) := dGR_28_c_933.2.2.1
theorem dX12_runs_137 : decode cX12_runs 137 = .ok (.if_icmp .ge 23, 3) := dGR_28_c_933.2.2.2.1
theorem dX12_runs_140 : decode cX12_runs 140 = .ok (.aload_n 0, 1) := dGR_28_c_933.2.2.2.2.1
theorem dX12_runs_141 : decode cX12_runs 141 = .ok (.iload_n 1, 1) := dGR_28_c_933.2.2.2.2.2.1
theorem dX12_runs_142 : decode cX12_runs 142 = .ok (.iload 5, 2) := dGR_28_c_933.2.2.2.2.2.2.1
theorem dX12_runs_144 : decode cX12_runs 144 = .ok (.aload_n 0, 1) := dGR_28_c_933.2.2.2.2.2.2.2.1
theorem dX12_runs_145 : decode cX12_runs 145 = .ok (.iload_n 2, 1) := dGR_28_c_933.2.2.2.2.2.2.2.2.1
theorem dX12_runs_146 : decode cX12_runs 146 = .ok (.iload 5, 2) := dGR_28_c_933.2.2.2.2.2.2.2.2.2.1
theorem dX12_runs_148 : decode cX12_runs 148 = .ok (.invokevirtual 349, 3) := dGR_28_c_933.2.2.2.2.2.2.2.2.2.2.1
theorem dX12_runs_151 : decode cX12_runs 151 = .ok (.invokevirtual 381, 3) := dGR_28_c_933.2.2.2.2.2.2.2.2.2.2.2
set_option maxRecDepth 100000 in
theorem dGR_28_c_934 : (decode cX12_runs 154 = .ok (.iinc 5 1, 3)) ∧ (decode cX12_runs 157 = .ok (.goto (-23), 3)) ∧ (decode cX12_runs 160 = .ok (.lconst 0, 1)) ∧ (decode cX12_runs 161 = .ok (.lstore 5, 2)) ∧ (decode cX12_runs 163 = .ok (.iconst 0, 1)) ∧ (decode cX12_runs 164 = .ok (.istore 7, 2)) ∧ (decode cX12_runs 166 = .ok (.iload 7, 2)) ∧ (decode cX12_runs 168 = .ok (.iconst 3, 1)) ∧ (decode cX12_runs 169 = .ok (.if_icmp .ge 44, 3)) ∧ (decode cX12_runs 172 = .ok (.lload 5, 2)) ∧ (decode cX12_runs 174 = .ok (.aload_n 0, 1)) ∧ (decode cX12_runs 175 = .ok (.aload_n 0, 1)) := by decide +kernel
theorem dX12_runs_154 : decode cX12_runs 154 = .ok (.iinc 5 1, 3) := dGR_28_c_934.1
theorem dX12_runs_157 : decode cX12_runs 157 = .ok (.goto (-23), 3) := dGR_28_c_934.2.1
theorem dX12_runs_160 : decode cX12_runs 160 = .ok (.lconst 0, 1) := dGR_28_c_934.2.2.1
theorem dX12_runs_161 : decode cX12_runs 161 = .ok (.lstore 5, 2) := dGR_28_c_934.2.2.2.1
theorem dX12_runs_163 : decode cX12_runs 163 = .ok (.iconst 0, 1) := dGR_28_c_934.2.2.2.2.1
theorem dX12_runs_164 : decode cX12_runs 164 = .ok (.istore 7, 2) := dGR_28_c_934.2.2.2.2.2.1
theorem dX12_runs_166 : decode cX12_runs 166 = .ok (.iload 7, 2) := dGR_28_c_934.2.2.2.2.2.2.1
theorem dX12_runs_168 : decode cX12_runs 168 = .ok (.iconst 3, 1) := dGR_28_c_934.2.2.2.2.2.2.2.1
theorem dX12_runs_169 : decode cX12_runs 169 = .ok (.if_icmp .ge 44, 3) := dGR_28_c_934.2.2.2.2.2.2.2.2.1
theorem dX12_runs_172 : decode cX12_runs 172 = .ok (.lload 5, 2) := dGR_28_c_934.2.2.2.2.2.2.2.2.2.1
theorem dX12_runs_174 : decode cX12_runs 174 = .ok (.aload_n 0, 1) := dGR_28_c_934.2.2.2.2.2.2.2.2.2.2.1
theorem dX12_runs_175 : decode cX12_runs 175 = .ok (.aload_n 0, 1) := dGR_28_c_934.2.2.2.2.2.2.2.2.2.2.2
set_option maxRecDepth 100000 in
theorem dGR_28_c_935 : (decode cX12_runs 176 = .ok (.iload_n 1, 1)) ∧ (decode cX12_runs 177 = .ok (.iconst 3, 1)) ∧ (decode cX12_runs 178 = .ok (.invokevirtual 288, 3)) ∧ (decode cX12_runs 181 = .ok (.iload 7, 2)) ∧ (decode cX12_runs 183 = .ok (.invokevirtual 239, 3)) ∧ (decode cX12_runs 186 = .ok (.ifCond .eq 17, 3)) ∧ (decode cX12_runs 189 = .ok (.aload_n 0, 1)) ∧ (decode cX12_runs 190 = .ok (.getfield 59, 3)) ∧ (decode cX12_runs 193 = .ok (.iconst 3, 1)) ∧ (decode cX12_runs 194 = .ok (.iload_n 3, 1)) ∧ (decode cX12_runs 195 = .ok (.imul, 1)) ∧ (decode cX12_runs 196 = .ok (.iload 7, 2)) := by decide +kernel
theorem dX12_runs_176 : decode cX12_runs 176 = .ok (.iload_n 1, 1) := dGR_28_c_935.1
theorem dX12_runs_177 : decode cX12_runs 177 = .ok (.iconst 3, 1) := dGR_28_c_935.2.1
theorem dX12_runs_178 : decode cX12_runs 178 = .ok (.invokevirtual 288, 3) := dGR_28_c_935.2.2.1
theorem dX12_runs_181 : decode cX12_runs 181 = .ok (.iload 7, 2) := dGR_28_c_935.2.2.2.1
theorem dX12_runs_183 : decode cX12_runs 183 = .ok (.invokevirtual 239, 3) := dGR_28_c_935.2.2.2.2.1
theorem dX12_runs_186 : decode cX12_runs 186 = .ok (.ifCond .eq 17, 3) := dGR_28_c_935.2.2.2.2.2.1
theorem dX12_runs_189 : decode cX12_runs 189 = .ok (.aload_n 0, 1) := dGR_28_c_935.2.2.2.2.2.2.1
theorem dX12_runs_190 : decode cX12_runs 190 = .ok (.getfield 59, 3) := dGR_28_c_935.2.2.2.2.2.2.2.1
theorem dX12_runs_193 : decode cX12_runs 193 = .ok (.iconst 3, 1) := dGR_28_c_935.2.2.2.2.2.2.2.2.1
theorem dX12_runs_194 : decode cX12_runs 194 = .ok (.iload_n 3, 1) := dGR_28_c_935.2.2.2.2.2.2.2.2.2.1
theorem dX12_runs_195 : decode cX12_runs 195 = .ok (.imul, 1) := dGR_28_c_935.2.2.2.2.2.2.2.2.2.2.1
theorem dX12_runs_196 : decode cX12_runs 196 = .ok (.iload 7, 2) := dGR_28_c_935.2.2.2.2.2.2.2.2.2.2.2
set_option maxRecDepth 100000 in
theorem dGR_28_c_936 : (decode cX12_runs 198 = .ok (.iadd, 1)) ∧ (decode cX12_runs 199 = .ok (.laload, 1)) ∧ (decode cX12_runs 200 = .ok (.goto 4, 3)) ∧ (decode cX12_runs 203 = .ok (.lconst 0, 1)) ∧ (decode cX12_runs 204 = .ok (.ladd, 1)) ∧ (decode cX12_runs 205 = .ok (.lstore 5, 2)) ∧ (decode cX12_runs 207 = .ok (.iinc 7 1, 3)) ∧ (decode cX12_runs 210 = .ok (.goto (-44), 3)) ∧ (decode cX12_runs 213 = .ok (.aload_n 0, 1)) ∧ (decode cX12_runs 214 = .ok (.lload 5, 2)) ∧ (decode cX12_runs 216 = .ok (.lconst 1, 1)) ∧ (decode cX12_runs 217 = .ok (.invokevirtual 384, 3)) := by decide +kernel
theorem dX12_runs_198 : decode cX12_runs 198 = .ok (.iadd, 1) := dGR_28_c_936.1
theorem dX12_runs_199 : decode cX12_runs 199 = .ok (.laload, 1) := dGR_28_c_936.2.1
theorem dX12_runs_200 : decode cX12_runs 200 = .ok (.goto 4, 3) := dGR_28_c_936.2.2.1
theorem dX12_runs_203 : decode cX12_runs 203 = .ok (.lconst 0, 1) := dGR_28_c_936.2.2.2.1
theorem dX12_runs_204 : decode cX12_runs 204 = .ok (.ladd, 1) := dGR_28_c_936.2.2.2.2.1
theorem dX12_runs_205 : decode cX12_runs 205 = .ok (.lstore 5, 2) := dGR_28_c_936.2.2.2.2.2.1
theorem dX12_runs_207 : decode cX12_runs 207 = .ok (.iinc 7 1, 3) := dGR_28_c_936.2.2.2.2.2.2.1
theorem dX12_runs_210 : decode cX12_runs 210 = .ok (.goto (-44), 3) := dGR_28_c_936.2.2.2.2.2.2.2.1
theorem dX12_runs_213 : decode cX12_runs 213 = .ok (.aload_n 0, 1) := dGR_28_c_936.2.2.2.2.2.2.2.2.1
theorem dX12_runs_214 : decode cX12_runs 214 = .ok (.lload 5, 2) := dGR_28_c_936.2.2.2.2.2.2.2.2.2.1
theorem dX12_runs_216 : decode cX12_runs 216 = .ok (.lconst 1, 1) := dGR_28_c_936.2.2.2.2.2.2.2.2.2.2.1
theorem dX12_runs_217 : decode cX12_runs 217 = .ok (.invokevirtual 384, 3) := dGR_28_c_936.2.2.2.2.2.2.2.2.2.2.2
theorem dX12_runs_220 : decode cX12_runs 220 = .ok (.ireturn, 1) := by decide +kernel
set_option maxRecDepth 100000 in
theorem dGR_28_c_937 : (decode cX12_laysPartners 0 = .ok (.aload_n 0, 1)) ∧ (decode cX12_laysPartners 1 = .ok (.iconst 0, 1)) ∧ (decode cX12_laysPartners 2 = .ok (.putfield 388, 3)) ∧ (decode cX12_laysPartners 5 = .ok (.aload_n 0, 1)) ∧ (decode cX12_laysPartners 6 = .ok (.iconst 0, 1)) ∧ (decode cX12_laysPartners 7 = .ok (.putfield 391, 3)) ∧ (decode cX12_laysPartners 10 = .ok (.aload_n 0, 1)) ∧ (decode cX12_laysPartners 11 = .ok (.iconst 0, 1)) ∧ (decode cX12_laysPartners 12 = .ok (.putfield 394, 3)) ∧ (decode cX12_laysPartners 15 = .ok (.iconst 0, 1)) ∧ (decode cX12_laysPartners 16 = .ok (.istore_n 3, 1)) ∧ (decode cX12_laysPartners 17 = .ok (.iload_n 3, 1)) := by decide +kernel
theorem dX12_laysPartners_0 : decode cX12_laysPartners 0 = .ok (.aload_n 0, 1) := dGR_28_c_937.1
theorem dX12_laysPartners_1 : decode cX12_laysPartners 1 = .ok (.iconst 0, 1) := dGR_28_c_937.2.1
theorem dX12_laysPartners_2 : decode cX12_laysPartners 2 = .ok (.putfield 388, 3) := dGR_28_c_937.2.2.1
theorem dX12_laysPartners_5 : decode cX12_laysPartners 5 = .ok (.aload_n 0, 1) := dGR_28_c_937.2.2.2.1
theorem dX12_laysPartners_6 : decode cX12_laysPartners 6 = .ok (.iconst 0, 1) := dGR_28_c_937.2.2.2.2.1
theorem dX12_laysPartners_7 : decode cX12_laysPartners 7 = .ok (.putfield 391, 3) := dGR_28_c_937.2.2.2.2.2.1
theorem dX12_laysPartners_10 : decode cX12_laysPartners 10 = .ok (.aload_n 0, 1) := dGR_28_c_937.2.2.2.2.2.2.1
theorem dX12_laysPartners_11 : decode cX12_laysPartners 11 = .ok (.iconst 0, 1) := dGR_28_c_937.2.2.2.2.2.2.2.1
theorem dX12_laysPartners_12 : decode cX12_laysPartners 12 = .ok (.putfield 394, 3) := dGR_28_c_937.2.2.2.2.2.2.2.2.1
theorem dX12_laysPartners_15 : decode cX12_laysPartners 15 = .ok (.iconst 0, 1) := dGR_28_c_937.2.2.2.2.2.2.2.2.2.1
theorem dX12_laysPartners_16 : decode cX12_laysPartners 16 = .ok (.istore_n 3, 1) := dGR_28_c_937.2.2.2.2.2.2.2.2.2.2.1
theorem dX12_laysPartners_17 : decode cX12_laysPartners 17 = .ok (.iload_n 3, 1) := dGR_28_c_937.2.2.2.2.2.2.2.2.2.2.2
set_option maxRecDepth 100000 in
theorem dGR_28_c_938 : (decode cX12_laysPartners 18 = .ok (.iload_n 2, 1)) ∧ (decode cX12_laysPartners 19 = .ok (.if_icmp .ge 134, 3)) ∧ (decode cX12_laysPartners 22 = .ok (.aload_n 0, 1)) ∧ (decode cX12_laysPartners 23 = .ok (.aload_n 0, 1)) ∧ (decode cX12_laysPartners 24 = .ok (.iload_n 1, 1)) ∧ (decode cX12_laysPartners 25 = .ok (.iload_n 3, 1)) ∧ (decode cX12_laysPartners 26 = .ok (.invokevirtual 349, 3)) ∧ (decode cX12_laysPartners 29 = .ok (.invokevirtual 297, 3)) ∧ (decode cX12_laysPartners 32 = .ok (.istore 4, 2)) ∧ (decode cX12_laysPartners 34 = .ok (.aload_n 0, 1)) ∧ (decode cX12_laysPartners 35 = .ok (.getfield 71, 3)) ∧ (decode cX12_laysPartners 38 = .ok (.iload_n 3, 1)) := by decide +kernel
theorem dX12_laysPartners_18 : decode cX12_laysPartners 18 = .ok (.iload_n 2, 1) := dGR_28_c_938.1
theorem dX12_laysPartners_19 : decode cX12_laysPartners 19 = .ok (.if_icmp .ge 134, 3) := dGR_28_c_938.2.1
theorem dX12_laysPartners_22 : decode cX12_laysPartners 22 = .ok (.aload_n 0, 1) := dGR_28_c_938.2.2.1
theorem dX12_laysPartners_23 : decode cX12_laysPartners 23 = .ok (.aload_n 0, 1) := dGR_28_c_938.2.2.2.1
theorem dX12_laysPartners_24 : decode cX12_laysPartners 24 = .ok (.iload_n 1, 1) := dGR_28_c_938.2.2.2.2.1
theorem dX12_laysPartners_25 : decode cX12_laysPartners 25 = .ok (.iload_n 3, 1) := dGR_28_c_938.2.2.2.2.2.1
theorem dX12_laysPartners_26 : decode cX12_laysPartners 26 = .ok (.invokevirtual 349, 3) := dGR_28_c_938.2.2.2.2.2.2.1
theorem dX12_laysPartners_29 : decode cX12_laysPartners 29 = .ok (.invokevirtual 297, 3) := dGR_28_c_938.2.2.2.2.2.2.2.1
theorem dX12_laysPartners_32 : decode cX12_laysPartners 32 = .ok (.istore 4, 2) := dGR_28_c_938.2.2.2.2.2.2.2.2.1
theorem dX12_laysPartners_34 : decode cX12_laysPartners 34 = .ok (.aload_n 0, 1) := dGR_28_c_938.2.2.2.2.2.2.2.2.2.1
theorem dX12_laysPartners_35 : decode cX12_laysPartners 35 = .ok (.getfield 71, 3) := dGR_28_c_938.2.2.2.2.2.2.2.2.2.2.1
theorem dX12_laysPartners_38 : decode cX12_laysPartners 38 = .ok (.iload_n 3, 1) := dGR_28_c_938.2.2.2.2.2.2.2.2.2.2.2
set_option maxRecDepth 100000 in
theorem dGR_28_c_939 : (decode cX12_laysPartners 39 = .ok (.iconst (-1), 1)) ∧ (decode cX12_laysPartners 40 = .ok (.iastore, 1)) ∧ (decode cX12_laysPartners 41 = .ok (.iload 4, 2)) ∧ (decode cX12_laysPartners 43 = .ok (.ifCond .ne 38, 3)) ∧ (decode cX12_laysPartners 46 = .ok (.aload_n 0, 1)) ∧ (decode cX12_laysPartners 47 = .ok (.getfield 56, 3)) ∧ (decode cX12_laysPartners 50 = .ok (.aload_n 0, 1)) ∧ (decode cX12_laysPartners 51 = .ok (.getfield 388, 3)) ∧ (decode cX12_laysPartners 54 = .ok (.iload_n 3, 1)) ∧ (decode cX12_laysPartners 55 = .ok (.iastore, 1)) ∧ (decode cX12_laysPartners 56 = .ok (.aload_n 0, 1)) ∧ (decode cX12_laysPartners 57 = .ok (.dup, 1)) := by decide +kernel
theorem dX12_laysPartners_39 : decode cX12_laysPartners 39 = .ok (.iconst (-1), 1) := dGR_28_c_939.1
theorem dX12_laysPartners_40 : decode cX12_laysPartners 40 = .ok (.iastore, 1) := dGR_28_c_939.2.1
theorem dX12_laysPartners_41 : decode cX12_laysPartners 41 = .ok (.iload 4, 2) := dGR_28_c_939.2.2.1
theorem dX12_laysPartners_43 : decode cX12_laysPartners 43 = .ok (.ifCond .ne 38, 3) := dGR_28_c_939.2.2.2.1
theorem dX12_laysPartners_46 : decode cX12_laysPartners 46 = .ok (.aload_n 0, 1) := dGR_28_c_939.2.2.2.2.1
theorem dX12_laysPartners_47 : decode cX12_laysPartners 47 = .ok (.getfield 56, 3) := dGR_28_c_939.2.2.2.2.2.1
theorem dX12_laysPartners_50 : decode cX12_laysPartners 50 = .ok (.aload_n 0, 1) := dGR_28_c_939.2.2.2.2.2.2.1
theorem dX12_laysPartners_51 : decode cX12_laysPartners 51 = .ok (.getfield 388, 3) := dGR_28_c_939.2.2.2.2.2.2.2.1
theorem dX12_laysPartners_54 : decode cX12_laysPartners 54 = .ok (.iload_n 3, 1) := dGR_28_c_939.2.2.2.2.2.2.2.2.1
theorem dX12_laysPartners_55 : decode cX12_laysPartners 55 = .ok (.iastore, 1) := dGR_28_c_939.2.2.2.2.2.2.2.2.2.1
theorem dX12_laysPartners_56 : decode cX12_laysPartners 56 = .ok (.aload_n 0, 1) := dGR_28_c_939.2.2.2.2.2.2.2.2.2.2.1
theorem dX12_laysPartners_57 : decode cX12_laysPartners 57 = .ok (.dup, 1) := dGR_28_c_939.2.2.2.2.2.2.2.2.2.2.2
set_option maxRecDepth 100000 in
theorem dGR_28_c_940 : (decode cX12_laysPartners 58 = .ok (.getfield 388, 3)) ∧ (decode cX12_laysPartners 61 = .ok (.iconst 1, 1)) ∧ (decode cX12_laysPartners 62 = .ok (.iadd, 1)) ∧ (decode cX12_laysPartners 63 = .ok (.putfield 388, 3)) ∧ (decode cX12_laysPartners 66 = .ok (.aload_n 0, 1)) ∧ (decode cX12_laysPartners 67 = .ok (.aload_n 0, 1)) ∧ (decode cX12_laysPartners 68 = .ok (.getfield 394, 3)) ∧ (decode cX12_laysPartners 71 = .ok (.aload_n 0, 1)) ∧ (decode cX12_laysPartners 72 = .ok (.getfield 388, 3)) ∧ (decode cX12_laysPartners 75 = .ok (.invokestatic 397, 3)) ∧ (decode cX12_laysPartners 78 = .ok (.putfield 394, 3)) ∧ (decode cX12_laysPartners 81 = .ok (.iload 4, 2)) := by decide +kernel
theorem dX12_laysPartners_58 : decode cX12_laysPartners 58 = .ok (.getfield 388, 3) := dGR_28_c_940.1
theorem dX12_laysPartners_61 : decode cX12_laysPartners 61 = .ok (.iconst 1, 1) := dGR_28_c_940.2.1
theorem dX12_laysPartners_62 : decode cX12_laysPartners 62 = .ok (.iadd, 1) := dGR_28_c_940.2.2.1
theorem dX12_laysPartners_63 : decode cX12_laysPartners 63 = .ok (.putfield 388, 3) := dGR_28_c_940.2.2.2.1
theorem dX12_laysPartners_66 : decode cX12_laysPartners 66 = .ok (.aload_n 0, 1) := dGR_28_c_940.2.2.2.2.1
theorem dX12_laysPartners_67 : decode cX12_laysPartners 67 = .ok (.aload_n 0, 1) := dGR_28_c_940.2.2.2.2.2.1
theorem dX12_laysPartners_68 : decode cX12_laysPartners 68 = .ok (.getfield 394, 3) := dGR_28_c_940.2.2.2.2.2.2.1
theorem dX12_laysPartners_71 : decode cX12_laysPartners 71 = .ok (.aload_n 0, 1) := dGR_28_c_940.2.2.2.2.2.2.2.1
theorem dX12_laysPartners_72 : decode cX12_laysPartners 72 = .ok (.getfield 388, 3) := dGR_28_c_940.2.2.2.2.2.2.2.2.1
theorem dX12_laysPartners_75 : decode cX12_laysPartners 75 = .ok (.invokestatic 397, 3) := dGR_28_c_940.2.2.2.2.2.2.2.2.2.1
theorem dX12_laysPartners_78 : decode cX12_laysPartners 78 = .ok (.putfield 394, 3) := dGR_28_c_940.2.2.2.2.2.2.2.2.2.2.1
theorem dX12_laysPartners_81 : decode cX12_laysPartners 81 = .ok (.iload 4, 2) := dGR_28_c_940.2.2.2.2.2.2.2.2.2.2.2
set_option maxRecDepth 100000 in
theorem dGR_28_c_941 : (decode cX12_laysPartners 83 = .ok (.iconst 1, 1)) ∧ (decode cX12_laysPartners 84 = .ok (.if_icmp .eq 6, 3)) ∧ (decode cX12_laysPartners 87 = .ok (.goto 60, 3)) ∧ (decode cX12_laysPartners 90 = .ok (.aload_n 0, 1)) ∧ (decode cX12_laysPartners 91 = .ok (.getfield 388, 3)) ∧ (decode cX12_laysPartners 94 = .ok (.ifCond .ne 16, 3)) ∧ (decode cX12_laysPartners 97 = .ok (.aload_n 0, 1)) ∧ (decode cX12_laysPartners 98 = .ok (.dup, 1)) ∧ (decode cX12_laysPartners 99 = .ok (.getfield 391, 3)) ∧ (decode cX12_laysPartners 102 = .ok (.iconst 1, 1)) ∧ (decode cX12_laysPartners 103 = .ok (.iadd, 1)) ∧ (decode cX12_laysPartners 104 = .ok (.putfield 391, 3)) := by decide +kernel
theorem dX12_laysPartners_83 : decode cX12_laysPartners 83 = .ok (.iconst 1, 1) := dGR_28_c_941.1
theorem dX12_laysPartners_84 : decode cX12_laysPartners 84 = .ok (.if_icmp .eq 6, 3) := dGR_28_c_941.2.1
theorem dX12_laysPartners_87 : decode cX12_laysPartners 87 = .ok (.goto 60, 3) := dGR_28_c_941.2.2.1
theorem dX12_laysPartners_90 : decode cX12_laysPartners 90 = .ok (.aload_n 0, 1) := dGR_28_c_941.2.2.2.1
theorem dX12_laysPartners_91 : decode cX12_laysPartners 91 = .ok (.getfield 388, 3) := dGR_28_c_941.2.2.2.2.1
theorem dX12_laysPartners_94 : decode cX12_laysPartners 94 = .ok (.ifCond .ne 16, 3) := dGR_28_c_941.2.2.2.2.2.1
theorem dX12_laysPartners_97 : decode cX12_laysPartners 97 = .ok (.aload_n 0, 1) := dGR_28_c_941.2.2.2.2.2.2.1
theorem dX12_laysPartners_98 : decode cX12_laysPartners 98 = .ok (.dup, 1) := dGR_28_c_941.2.2.2.2.2.2.2.1
theorem dX12_laysPartners_99 : decode cX12_laysPartners 99 = .ok (.getfield 391, 3) := dGR_28_c_941.2.2.2.2.2.2.2.2.1
theorem dX12_laysPartners_102 : decode cX12_laysPartners 102 = .ok (.iconst 1, 1) := dGR_28_c_941.2.2.2.2.2.2.2.2.2.1
theorem dX12_laysPartners_103 : decode cX12_laysPartners 103 = .ok (.iadd, 1) := dGR_28_c_941.2.2.2.2.2.2.2.2.2.2.1
theorem dX12_laysPartners_104 : decode cX12_laysPartners 104 = .ok (.putfield 391, 3) := dGR_28_c_941.2.2.2.2.2.2.2.2.2.2.2
set_option maxRecDepth 100000 in
theorem dGR_28_c_942 : (decode cX12_laysPartners 107 = .ok (.goto 40, 3)) ∧ (decode cX12_laysPartners 110 = .ok (.aload_n 0, 1)) ∧ (decode cX12_laysPartners 111 = .ok (.dup, 1)) ∧ (decode cX12_laysPartners 112 = .ok (.getfield 388, 3)) ∧ (decode cX12_laysPartners 115 = .ok (.iconst 1, 1)) ∧ (decode cX12_laysPartners 116 = .ok (.isub, 1)) ∧ (decode cX12_laysPartners 117 = .ok (.putfield 388, 3)) ∧ (decode cX12_laysPartners 120 = .ok (.aload_n 0, 1)) ∧ (decode cX12_laysPartners 121 = .ok (.getfield 71, 3)) ∧ (decode cX12_laysPartners 124 = .ok (.iload_n 3, 1)) ∧ (decode cX12_laysPartners 125 = .ok (.aload_n 0, 1)) ∧ (decode cX12_laysPartners 126 = .ok (.getfield 56, 3)) := by decide +kernel
theorem dX12_laysPartners_107 : decode cX12_laysPartners 107 = .ok (.goto 40, 3) := dGR_28_c_942.1
theorem dX12_laysPartners_110 : decode cX12_laysPartners 110 = .ok (.aload_n 0, 1) := dGR_28_c_942.2.1
theorem dX12_laysPartners_111 : decode cX12_laysPartners 111 = .ok (.dup, 1) := dGR_28_c_942.2.2.1
theorem dX12_laysPartners_112 : decode cX12_laysPartners 112 = .ok (.getfield 388, 3) := dGR_28_c_942.2.2.2.1
theorem dX12_laysPartners_115 : decode cX12_laysPartners 115 = .ok (.iconst 1, 1) := dGR_28_c_942.2.2.2.2.1
theorem dX12_laysPartners_116 : decode cX12_laysPartners 116 = .ok (.isub, 1) := dGR_28_c_942.2.2.2.2.2.1
theorem dX12_laysPartners_117 : decode cX12_laysPartners 117 = .ok (.putfield 388, 3) := dGR_28_c_942.2.2.2.2.2.2.1
theorem dX12_laysPartners_120 : decode cX12_laysPartners 120 = .ok (.aload_n 0, 1) := dGR_28_c_942.2.2.2.2.2.2.2.1
theorem dX12_laysPartners_121 : decode cX12_laysPartners 121 = .ok (.getfield 71, 3) := dGR_28_c_942.2.2.2.2.2.2.2.2.1
theorem dX12_laysPartners_124 : decode cX12_laysPartners 124 = .ok (.iload_n 3, 1) := dGR_28_c_942.2.2.2.2.2.2.2.2.2.1
theorem dX12_laysPartners_125 : decode cX12_laysPartners 125 = .ok (.aload_n 0, 1) := dGR_28_c_942.2.2.2.2.2.2.2.2.2.2.1
theorem dX12_laysPartners_126 : decode cX12_laysPartners 126 = .ok (.getfield 56, 3) := dGR_28_c_942.2.2.2.2.2.2.2.2.2.2.2
set_option maxRecDepth 100000 in
theorem dGR_28_c_943 : (decode cX12_laysPartners 129 = .ok (.aload_n 0, 1)) ∧ (decode cX12_laysPartners 130 = .ok (.getfield 388, 3)) ∧ (decode cX12_laysPartners 133 = .ok (.iaload, 1)) ∧ (decode cX12_laysPartners 134 = .ok (.iastore, 1)) ∧ (decode cX12_laysPartners 135 = .ok (.aload_n 0, 1)) ∧ (decode cX12_laysPartners 136 = .ok (.getfield 71, 3)) ∧ (decode cX12_laysPartners 139 = .ok (.aload_n 0, 1)) ∧ (decode cX12_laysPartners 140 = .ok (.getfield 71, 3)) ∧ (decode cX12_laysPartners 143 = .ok (.iload_n 3, 1)) ∧ (decode cX12_laysPartners 144 = .ok (.iaload, 1)) ∧ (decode cX12_laysPartners 145 = .ok (.iload_n 3, 1)) ∧ (decode cX12_laysPartners 146 = .ok (.iastore, 1)) := by decide +kernel
theorem dX12_laysPartners_129 : decode cX12_laysPartners 129 = .ok (.aload_n 0, 1) := dGR_28_c_943.1
theorem dX12_laysPartners_130 : decode cX12_laysPartners 130 = .ok (.getfield 388, 3) := dGR_28_c_943.2.1
theorem dX12_laysPartners_133 : decode cX12_laysPartners 133 = .ok (.iaload, 1) := dGR_28_c_943.2.2.1
theorem dX12_laysPartners_134 : decode cX12_laysPartners 134 = .ok (.iastore, 1) := dGR_28_c_943.2.2.2.1
theorem dX12_laysPartners_135 : decode cX12_laysPartners 135 = .ok (.aload_n 0, 1) := dGR_28_c_943.2.2.2.2.1
theorem dX12_laysPartners_136 : decode cX12_laysPartners 136 = .ok (.getfield 71, 3) := dGR_28_c_943.2.2.2.2.2.1
theorem dX12_laysPartners_139 : decode cX12_laysPartners 139 = .ok (.aload_n 0, 1) := dGR_28_c_943.2.2.2.2.2.2.1
theorem dX12_laysPartners_140 : decode cX12_laysPartners 140 = .ok (.getfield 71, 3) := dGR_28_c_943.2.2.2.2.2.2.2.1
theorem dX12_laysPartners_143 : decode cX12_laysPartners 143 = .ok (.iload_n 3, 1) := dGR_28_c_943.2.2.2.2.2.2.2.2.1
theorem dX12_laysPartners_144 : decode cX12_laysPartners 144 = .ok (.iaload, 1) := dGR_28_c_943.2.2.2.2.2.2.2.2.2.1
theorem dX12_laysPartners_145 : decode cX12_laysPartners 145 = .ok (.iload_n 3, 1) := dGR_28_c_943.2.2.2.2.2.2.2.2.2.2.1
theorem dX12_laysPartners_146 : decode cX12_laysPartners 146 = .ok (.iastore, 1) := dGR_28_c_943.2.2.2.2.2.2.2.2.2.2.2
set_option maxRecDepth 100000 in
theorem dGR_28_c_944 : (decode cX12_laysPartners 147 = .ok (.iinc 3 1, 3)) ∧ (decode cX12_laysPartners 150 = .ok (.goto (-133), 3)) ∧ (decode cX12_laysPartners 153 = .ok (.return_, 1)) := by decide +kernel
theorem dX12_laysPartners_147 : decode cX12_laysPartners 147 = .ok (.iinc 3 1, 3) := dGR_28_c_944.1
theorem dX12_laysPartners_150 : decode cX12_laysPartners 150 = .ok (.goto (-133), 3) := dGR_28_c_944.2.1
theorem dX12_laysPartners_153 : decode cX12_laysPartners 153 = .ok (.return_, 1) := dGR_28_c_944.2.2
