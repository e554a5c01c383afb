theorem dX11_runs_0 : decode cX11_runs 0 = .ok (.aload_n 0, 1) := by decide +kernel
theorem dX11_runs_1 : decode cX11_runs 1 = .ok (.aload_n 0, 1) := by decide +kernel
theorem dX11_runs_2 : decode cX11_runs 2 = .ok (.getfield 26, 3) := by decide +kernel
theorem dX11_runs_5 : decode cX11_runs 5 = .ok (.iload_n 1, 1) := by decide +kernel
theorem dX11_runs_6 : decode cX11_runs 6 = .ok (.invokevirtual 163, 3) := by decide +kernel
theorem dX11_runs_9 : decode cX11_runs 9 = .ok (.iload_n 2, 1) := by decide +kernel
theorem dX11_runs_10 : decode cX11_runs 10 = .ok (.iload_n 3, 1) := by decide +kernel
theorem dX11_runs_11 : decode cX11_runs 11 = .ok (.invokevirtual 226, 3) := by decide +kernel
theorem dX11_runs_14 : decode cX11_runs 14 = .ok (.istore 4, 2) := by decide +kernel
theorem dX11_runs_16 : decode cX11_runs 16 = .ok (.iload 4, 2) := by decide +kernel
theorem dX11_runs_18 : decode cX11_runs 18 = .ok (.ifCond .eq 10, 3) := by decide +kernel
theorem dX11_runs_21 : decode cX11_runs 21 = .ok (.aload_n 0, 1) := by decide +kernel
theorem dX11_runs_22 : decode cX11_runs 22 = .ok (.iload 4, 2) := by decide +kernel
theorem dX11_runs_24 : decode cX11_runs 24 = .ok (.invokevirtual 91, 3) := by decide +kernel
theorem dX11_runs_27 : decode cX11_runs 27 = .ok (.ireturn, 1) := by decide +kernel
theorem dX11_runs_28 : decode cX11_runs 28 = .ok (.aload_n 0, 1) := by decide +kernel
theorem dX11_runs_29 : decode cX11_runs 29 = .ok (.getfield 26, 3) := by decide +kernel
theorem dX11_runs_32 : decode cX11_runs 32 = .ok (.iload_n 1, 1) := by decide +kernel
theorem dX11_runs_33 : decode cX11_runs 33 = .ok (.invokevirtual 164, 3) := by decide +kernel
theorem dX11_runs_36 : decode cX11_runs 36 = .ok (.astore 5, 2) := by decide +kernel
theorem dX11_runs_38 : decode cX11_runs 38 = .ok (.aload_n 0, 1) := by decide +kernel
theorem dX11_runs_39 : decode cX11_runs 39 = .ok (.getfield 68, 3) := by decide +kernel
theorem dX11_runs_42 : decode cX11_runs 42 = .ok (.invokevirtual 239, 3) := by decide +kernel
theorem dX11_runs_45 : decode cX11_runs 45 = .ok (.iconst 0, 1) := by decide +kernel
theorem dX11_runs_46 : decode cX11_runs 46 = .ok (.istore 6, 2) := by decide +kernel
theorem dX11_runs_48 : decode cX11_runs 48 = .ok (.iload 6, 2) := by decide +kernel
theorem dX11_runs_50 : decode cX11_runs 50 = .ok (.iload_n 3, 1) := by decide +kernel
theorem dX11_runs_51 : decode cX11_runs 51 = .ok (.if_icmp .ge 42, 3) := by decide +kernel
theorem dX11_runs_54 : decode cX11_runs 54 = .ok (.aload_n 0, 1) := by decide +kernel
theorem dX11_runs_55 : decode cX11_runs 55 = .ok (.getfield 10, 3) := by decide +kernel
theorem dX11_runs_58 : decode cX11_runs 58 = .ok (.iload_n 2, 1) := by decide +kernel
theorem dX11_runs_59 : decode cX11_runs 59 = .ok (.iload 6, 2) := by decide +kernel
theorem dX11_runs_61 : decode cX11_runs 61 = .ok (.invokevirtual 114, 3) := by decide +kernel
theorem dX11_runs_64 : decode cX11_runs 64 = .ok (.l2i, 1) := by decide +kernel
theorem dX11_runs_65 : decode cX11_runs 65 = .ok (.istore 7, 2) := by decide +kernel
theorem dX11_runs_67 : decode cX11_runs 67 = .ok (.aload_n 0, 1) := by decide +kernel
theorem dX11_runs_68 : decode cX11_runs 68 = .ok (.getfield 68, 3) := by decide +kernel
theorem dX11_runs_71 : decode cX11_runs 71 = .ok (.aload 5, 2) := by decide +kernel
theorem dX11_runs_73 : decode cX11_runs 73 = .ok (.iload 7, 2) := by decide +kernel
theorem dX11_runs_75 : decode cX11_runs 75 = .ok (.aload_n 0, 1) := by decide +kernel
theorem dX11_runs_76 : decode cX11_runs 76 = .ok (.getfield 26, 3) := by decide +kernel
theorem dX11_runs_79 : decode cX11_runs 79 = .ok (.iload 7, 2) := by decide +kernel
theorem dX11_runs_81 : decode cX11_runs 81 = .ok (.invokevirtual 242, 3) := by decide +kernel
theorem dX11_runs_84 : decode cX11_runs 84 = .ok (.invokevirtual 245, 3) := by decide +kernel
theorem dX11_runs_87 : decode cX11_runs 87 = .ok (.iinc 6 1, 3) := by decide +kernel
theorem dX11_runs_90 : decode cX11_runs 90 = .ok (.goto (-42), 3) := by decide +kernel
theorem dX11_runs_93 : decode cX11_runs 93 = .ok (.aload_n 0, 1) := by decide +kernel
theorem dX11_runs_94 : decode cX11_runs 94 = .ok (.aload_n 0, 1) := by decide +kernel
theorem dX11_runs_95 : decode cX11_runs 95 = .ok (.getfield 68, 3) := by decide +kernel
theorem dX11_runs_98 : decode cX11_runs 98 = .ok (.aload 5, 2) := by decide +kernel
theorem dX11_runs_100 : decode cX11_runs 100 = .ok (.invokevirtual 248, 3) := by decide +kernel
theorem dX11_runs_103 : decode cX11_runs 103 = .ok (.lconst 1, 1) := by decide +kernel
theorem dX11_runs_104 : decode cX11_runs 104 = .ok (.invokevirtual 252, 3) := by decide +kernel
theorem dX11_runs_107 : decode cX11_runs 107 = .ok (.aload_n 0, 1) := by decide +kernel
theorem dX11_runs_108 : decode cX11_runs 108 = .ok (.invokevirtual 98, 3) := by decide +kernel
theorem dX11_runs_111 : decode cX11_runs 111 = .ok (.ireturn, 1) := by decide +kernel
abbrev f_c_X11_runs : List (Nat × Int) := [(56, 0), (56, 5), (56, 6), (57, -1), (58, -1), (59, -1), (60, -1), (61, -1), (62, 0), (62, 1), (62, 2)]
set_option maxHeartbeats 4000000 in
set_option maxRecDepth 100000 in
theorem c_X11_runs (G : KG) (l : Launch) (M : Mem) (c0 : Int) (a1 : Int) (a2 : Int) (a3 : Int) (hI_M : Inv false M) (hk_c0 : kd c0 = 62) (hpre : -2147483648 ≤ a1 ∧ a1 ≤ 2147483647 ∧ -2147483648 ≤ a2 ∧ a2 ≤ 2147483647 ∧ -2147483648 ≤ a3 ∧ a3 ≤ 2147483647) : KC false G l yX11_runs cX11_runs 8 (some .boolean) (3, 73) [vR G c0, vI a1, vI a2, vI a3] M (fun A => kQi false G A (fun (r : Int) (N : Mem) => Inv false N ∧ Fr f_c_X11_runs M N ∧ (0 ≤ r ∧ r ≤ 1))) := by
  refine kx_met (lo := [some (vR G c0), some (vI a1), some (vI a2), some (vI a3), none, none, none, none]) (by decide) (Nat.le_of_ble_eq_true rfl) rfl ?_
  intro X F hQ
  have hF_M : Fr f_c_X11_runs M M := Fr.rf _ _
  refine kx_aload_n 1 F 0 dX11_runs_0 rfl rfl rfl ?_
  refine kx_aload_n 2 F 0 dX11_runs_1 rfl rfl rfl ?_
  refine kx_getr 5 F fl_X11_26 hk_c0 rfl rfl (j := 5) rfl dX11_runs_2 (v := (M c0 5)) rfl rfl ?_
  have hk_1 : kd (M c0 5) = 12 := Inv.r hI_M hk_c0 rfl 5 rfl rfl
  refine kx_iload_n 6 F 1 dX11_runs_5 rfl rfl rfl ?_
  refine kx_Vi 9 (ci := 0) F (As := [vI a1]) (st := [vR G c0]) vd_X11_163 (c_X5_has G l M (M c0 5) a1 hI_M hk_1 (by omega)) hk_1 rfl rfl rfl ⟨by decide, by decide⟩ rfl rfl (Nat.le_of_ble_eq_true rfl) dX11_runs_6 rfl ?_
  intro r_2 N_3 q_4
  obtain ⟨rfl, q_4c⟩ := q_4
  have h_5 := Inv.g hI_M hk_1 rfl 3 (a := 0) (b := 2) rfl rfl
  rcases q_4c with q_4c | q_4c
  · refine kx_iload_n 10 F 2 dX11_runs_9 rfl rfl rfl ?_
    refine kx_iload_n 11 F 3 dX11_runs_10 rfl rfl rfl ?_
    refine kx_Vi 14 (ci := 0) F (As := [vI r_2, vI a2, vI a3]) (st := []) vd_X11_226 (c_X11_wordRefusal G l M c0 r_2 a2 a3 hI_M hk_c0 (by omega)) hk_c0 rfl rfl rfl ⟨by decide, by decide⟩ rfl rfl (Nat.le_of_ble_eq_true rfl) dX11_runs_11 rfl ?_
    intro r_6 N_7 q_8
    obtain ⟨rfl, q_8c, hw_N_7⟩ := q_8
    rcases q_8c with q_8c | q_8c
    · refine kx_istore 16 F 4 (lo' := [some (vR G c0), some (vI a1), some (vI a2), some (vI a3), some (vI r_6), none, none, none]) dX11_runs_14 (by decide) rfl rfl rfl ?_
      refine kx_iload 18 F 4 dX11_runs_16 rfl rfl ?_
      refine kx_if_eq 21 F 28 dX11_runs_18 (by decide) rfl (by omega) (fun h_9 => ?_) (fun h_9 => (by exfalso; omega))
      refine kx_aload_n 29 F 0 dX11_runs_28 rfl rfl rfl ?_
      refine kx_getr 32 F fl_X11_26 hk_c0 rfl rfl (j := 5) rfl dX11_runs_29 (v := (M c0 5)) rfl rfl ?_
      refine kx_iload_n 33 F 1 dX11_runs_32 rfl rfl rfl ?_
      refine kx_Vr 36 (ci := 0) F (As := [vI a1]) (st := []) vd_X11_164 (c_X5_pick G l M (M c0 5) a1 hI_M hk_1 (by omega)) hk_1 rfl rfl rfl ⟨by decide, by decide⟩ rfl rfl (Nat.le_of_ble_eq_true rfl) dX11_runs_33 rfl ?_
      intro r_10 N_11 q_12
      obtain ⟨rfl, hk_13⟩ := q_12
      refine kx_astore 38 F 5 (lo' := [some (vR G c0), some (vI a1), some (vI a2), some (vI a3), some (vI r_6), some (vR G r_10), none, none]) dX11_runs_36 (by decide) rfl rfl rfl ?_
      refine kx_aload_n 39 F 0 dX11_runs_38 rfl rfl rfl ?_
      refine kx_getr 42 F fl_X11_68 hk_c0 rfl rfl (j := 13) rfl dX11_runs_39 (v := (M c0 13)) rfl rfl ?_
      have hk_14 : kd (M c0 13) = 56 := Inv.r hI_M hk_c0 rfl 13 rfl rfl
      refine kx_Vv 45 (ci := 0) F (As := []) (st := []) vd_X11_239 (c_X3_begin G l M (M c0 13) hI_M hk_14) hk_14 rfl rfl rfl ⟨by decide, by decide⟩ rfl rfl (Nat.le_of_ble_eq_true rfl) dX11_runs_42 rfl ?_
      intro N_15 q_16
      obtain ⟨hI_N_15, hG_N_15⟩ := q_16
      have hF_N_15 : Fr f_c_X11_runs M N_15 := Fr.c hF_M hG_N_15 rfl
      refine kx_iconst 46 F dX11_runs_45 rfl ?_
      refine kx_istore 48 F 6 (lo' := [some (vR G c0), some (vI a1), some (vI a2), some (vI a3), some (vI r_6), some (vR G r_10), some (vI 0), none]) dX11_runs_46 (by decide) rfl rfl rfl ?_
      have L_236 : ∀ (n_237 : Nat) (x6_234 : Int) (N_235 : Mem), Inv false N_235 → Fr f_c_X11_runs M N_235 → 0 ≤ x6_234 ∧ x6_234 ≤ 20 → (20 - (x6_234)).toNat = n_237 → KJ false G X N_235 48 [some (vR G c0), none, some (vI a2), some (vI a3), none, some (vR G r_10), some (vI x6_234), none] [] := by
        intro n_237
        refine Nat.strongRecOn n_237 ?_
        intro n_237 ih_238 x6_234 N_235 hI_N_235 hF_N_235 h_239 hm_240
        refine kx_iload 50 F 6 dX11_runs_48 rfl rfl ?_
        refine kx_iload_n 51 F 3 dX11_runs_50 rfl rfl rfl ?_
        refine kx_icmp_ge 54 F 93 dX11_runs_51 (by decide) rfl (by omega) (by omega) (fun h_241 => ?_) (fun h_241 => ?_)
        · refine kx_aload_n 94 F 0 dX11_runs_93 rfl rfl rfl ?_
          refine kx_aload_n 95 F 0 dX11_runs_94 rfl rfl rfl ?_
          refine kx_getr 98 F fl_X11_68 hk_c0 rfl rfl (j := 13) rfl dX11_runs_95 (v := (M c0 13)) (by rw [Fr.e hF_N_235 hk_c0 _ rfl]) rfl ?_
          refine kx_aload 100 F 5 dX11_runs_98 rfl rfl ?_
          refine kx_Vl 103 (ci := 0) F (As := [vR G r_10]) (st := [vR G c0]) vd_X11_248 (c_X3_total G l N_235 (M c0 13) r_10 hI_N_235 hk_14 hk_13) hk_14 rfl rfl rfl ⟨by decide, by decide⟩ rfl rfl (Nat.le_of_ble_eq_true rfl) dX11_runs_100 rfl ?_
          intro r_242 N_243 q_244
          obtain ⟨hI_N_243, hG_N_243, q_244c⟩ := q_244
          have hF_N_243 : Fr f_c_X11_runs M N_243 := Fr.c hF_N_235 hG_N_243 rfl
          refine kx_lconst 104 (z := 1) F dX11_runs_103 (by decide) rfl ?_
          refine kx_Vv 107 (ci := 0) F (As := [vL r_242, vL 1]) (st := []) vd_X11_252 (c_X11_tellFraction G l N_243 c0 r_242 1 hI_N_243 hk_c0 (by omega)) hk_c0 rfl rfl rfl ⟨by decide, by decide⟩ rfl rfl (Nat.le_of_ble_eq_true rfl) dX11_runs_104 rfl ?_
          intro N_245 q_246
          obtain ⟨hI_N_245, hG_N_245⟩ := q_246
          have hF_N_245 : Fr f_c_X11_runs M N_245 := Fr.c hF_N_243 hG_N_245 rfl
          refine kx_aload_n 108 F 0 dX11_runs_107 rfl rfl rfl ?_
          refine kx_Vi 111 (ci := 0) F (As := []) (st := []) vd_X11_98 (c_X11_agree G l N_245 c0 hI_N_245 hk_c0) hk_c0 rfl rfl rfl ⟨by decide, by decide⟩ rfl rfl (Nat.le_of_ble_eq_true rfl) dX11_runs_108 rfl ?_
          intro r_247 N_248 q_249
          obtain ⟨hI_N_248, hG_N_248, q_249c⟩ := q_249
          have hF_N_248 : Fr f_c_X11_runs M N_248 := Fr.c hF_N_245 hG_N_248 rfl
          subst q_249c
          exact kx_zret F hQ (by omega) ⟨hI_N_248, hF_N_248, (by omega)⟩ dX11_runs_111
        · refine kx_aload_n 55 F 0 dX11_runs_54 rfl rfl rfl ?_
          refine kx_getr 58 F fl_X11_10 hk_c0 rfl rfl (j := 3) rfl dX11_runs_55 (v := (M c0 3)) (by rw [Fr.e hF_N_235 hk_c0 _ rfl]) rfl ?_
          have hk_250 : kd (M c0 3) = 13 := Inv.r hI_M hk_c0 rfl 3 rfl rfl
          refine kx_iload_n 59 F 2 dX11_runs_58 rfl rfl rfl ?_
          refine kx_iload 61 F 6 dX11_runs_59 rfl rfl ?_
          refine kx_Vl 64 (ci := 0) F (As := [vI a2, vI x6_234]) (st := []) vd_X11_114 (c_X9_get G l N_235 (M c0 3) a2 x6_234 hI_N_235 hk_250 (by omega)) hk_250 rfl rfl rfl ⟨by decide, by decide⟩ rfl rfl (Nat.le_of_ble_eq_true rfl) dX11_runs_61 rfl ?_
          intro r_251 N_252 q_253
          obtain ⟨rfl, q_253c⟩ := q_253
          have hk_254 : kd (M (M c0 3) 0) = 14 := Inv.r hI_M hk_250 rfl 0 rfl rfl
          have e_255 : (N_235 (M c0 3) 0) = (M (M c0 3) 0) := by rw [Fr.e hF_N_235 hk_250 _ rfl]
          have e_256 : (N_235 (N_235 (M c0 3) 0) (60 * a2 + x6_234)) = (M (M (M c0 3) 0) (60 * a2 + x6_234)) := by rw [e_255, Fr.e hF_N_235 hk_254 _ rfl]
          have e_257 : (N_235 (M c0 3) 0) = (M (M c0 3) 0) := by rw [Fr.e hF_N_235 hk_250 _ rfl]
          have e_258 : (N_235 (N_235 (M c0 3) 0) (60 * a2 + x6_234)) = (M (M (M c0 3) 0) (60 * a2 + x6_234)) := by rw [e_257, Fr.e hF_N_235 hk_254 _ rfl]
          have h_259 := (hw_N_7 (by omega)) x6_234 (by omega) (by omega)
          refine kx_l2i 65 F dX11_runs_64 rfl ?_
          refine kx_istore 67 F 7 (lo' := [some (vR G c0), none, some (vI a2), some (vI a3), none, some (vR G r_10), some (vI x6_234), some (vI r_251)]) dX11_runs_65 (by decide) rfl rfl rfl ?_
          refine kx_aload_n 68 F 0 dX11_runs_67 rfl rfl rfl ?_
          refine kx_getr 71 F fl_X11_68 hk_c0 rfl rfl (j := 13) rfl dX11_runs_68 (v := (M c0 13)) (by rw [Fr.e hF_N_235 hk_c0 _ rfl]) rfl ?_
          refine kx_aload 73 F 5 dX11_runs_71 rfl rfl ?_
          refine kx_iload 75 F 7 dX11_runs_73 rfl rfl ?_
          refine kx_aload_n 76 F 0 dX11_runs_75 rfl rfl rfl ?_
          refine kx_getr 79 F fl_X11_26 hk_c0 rfl rfl (j := 5) rfl dX11_runs_76 (v := (M c0 5)) (by rw [Fr.e hF_N_235 hk_c0 _ rfl]) rfl ?_
          refine kx_iload 81 F 7 dX11_runs_79 rfl rfl ?_
          refine kx_Vi 84 (ci := 0) F (As := [vI r_251]) (st := [vI r_251, vR G r_10, vR G (M c0 13)]) vd_X11_242 (c_X5_sortOf G l N_235 (M c0 5) r_251 hI_N_235 hk_1 (by omega)) hk_1 rfl rfl rfl ⟨by decide, by decide⟩ rfl rfl (Nat.le_of_ble_eq_true rfl) dX11_runs_81 rfl ?_
          intro r_260 N_261 q_262
          obtain ⟨rfl, q_262c⟩ := q_262
          have e_263 : (N_235 (M c0 5) 2) = (M (M c0 5) 2) := by rw [Fr.e hF_N_235 hk_1 _ rfl]
          have h_264 := Inv.g hI_M hk_1 rfl 2 (a := 0) (b := 6) rfl rfl
          have e_265 : (N_235 (M c0 5) 2) = (M (M c0 5) 2) := by rw [Fr.e hF_N_235 hk_1 _ rfl]
          rcases q_262c with q_262c | q_262c
          · refine kx_Vv 87 (ci := 0) F (As := [vR G r_10, vI r_251, vI r_260]) (st := []) vd_X11_245 (c_X3_go G l N_235 (M c0 13) r_10 r_251 r_260 hI_N_235 hk_14 hk_13 (by omega)) hk_14 rfl rfl rfl ⟨by decide, by decide⟩ rfl rfl (Nat.le_of_ble_eq_true rfl) dX11_runs_84 rfl ?_
            intro N_266 q_267
            obtain ⟨hI_N_266, hG_N_266⟩ := q_267
            have hF_N_266 : Fr f_c_X11_runs M N_266 := Fr.c hF_N_235 hG_N_266 rfl
            refine kx_iinc 90 F 6 (v := x6_234 + 1) (lo' := [some (vR G c0), none, some (vI a2), some (vI a3), none, some (vR G r_10), some (vI (x6_234 + 1)), some (vI r_251)]) dX11_runs_87 rfl (by omega) (by decide) rfl rfl rfl ?_
            refine kx_goto 48 F dX11_runs_90 (by decide) ?_
            refine kx_drop 7 (lo' := [some (vR G c0), none, some (vI a2), some (vI a3), none, some (vR G r_10), some (vI (x6_234 + 1)), none]) rfl ?_
            exact ih_238 _ (by omega) (x6_234 + 1) N_266 hI_N_266 hF_N_266 (by omega) rfl
          · refine kx_Vv 87 (ci := 0) F (As := [vR G r_10, vI r_251, vI r_260]) (st := []) vd_X11_245 (c_X3_go G l N_235 (M c0 13) r_10 r_251 r_260 hI_N_235 hk_14 hk_13 (by omega)) hk_14 rfl rfl rfl ⟨by decide, by decide⟩ rfl rfl (Nat.le_of_ble_eq_true rfl) dX11_runs_84 rfl ?_
            intro N_268 q_269
            obtain ⟨hI_N_268, hG_N_268⟩ := q_269
            have hF_N_268 : Fr f_c_X11_runs M N_268 := Fr.c hF_N_235 hG_N_268 rfl
            refine kx_iinc 90 F 6 (v := x6_234 + 1) (lo' := [some (vR G c0), none, some (vI a2), some (vI a3), none, some (vR G r_10), some (vI (x6_234 + 1)), some (vI r_251)]) dX11_runs_87 rfl (by omega) (by decide) rfl rfl rfl ?_
            refine kx_goto 48 F dX11_runs_90 (by decide) ?_
            refine kx_drop 7 (lo' := [some (vR G c0), none, some (vI a2), some (vI a3), none, some (vR G r_10), some (vI (x6_234 + 1)), none]) rfl ?_
            exact ih_238 _ (by omega) (x6_234 + 1) N_268 hI_N_268 hF_N_268 (by omega) rfl
      refine kx_drop 1 (lo' := [some (vR G c0), none, some (vI a2), some (vI a3), some (vI r_6), some (vR G r_10), some (vI 0), none]) rfl ?_
      refine kx_drop 4 (lo' := [some (vR G c0), none, some (vI a2), some (vI a3), none, some (vR G r_10), some (vI 0), none]) rfl ?_
      exact L_236 _ 0 N_15 hI_N_15 hF_N_15 (by omega) rfl
    · refine kx_istore 16 F 4 (lo' := [some (vR G c0), some (vI a1), some (vI a2), some (vI a3), some (vI r_6), none, none, none]) dX11_runs_14 (by decide) rfl rfl rfl ?_
      refine kx_iload 18 F 4 dX11_runs_16 rfl rfl ?_
      refine kx_if_eq 21 F 28 dX11_runs_18 (by decide) rfl (by omega) (fun h_270 => (by exfalso; omega)) (fun h_270 => ?_)
      refine kx_aload_n 22 F 0 dX11_runs_21 rfl rfl rfl ?_
      refine kx_iload 24 F 4 dX11_runs_22 rfl rfl ?_
      refine kx_Vi 27 (ci := 0) F (As := [vI r_6]) (st := []) vd_X11_91 (c_X11_deny G l M c0 r_6 hI_M hk_c0 (by omega)) hk_c0 rfl rfl rfl ⟨by decide, by decide⟩ rfl rfl (Nat.le_of_ble_eq_true rfl) dX11_runs_24 rfl ?_
      intro r_271 N_272 q_273
      obtain ⟨hI_N_272, hG_N_272, q_273c⟩ := q_273
      have hF_N_272 : Fr f_c_X11_runs M N_272 := Fr.c hF_M hG_N_272 rfl
      subst q_273c
      exact kx_zret F hQ (by omega) ⟨hI_N_272, hF_N_272, (by omega)⟩ dX11_runs_27
  · refine kx_iload_n 10 F 2 dX11_runs_9 rfl rfl rfl ?_
    refine kx_iload_n 11 F 3 dX11_runs_10 rfl rfl rfl ?_
    refine kx_Vi 14 (ci := 0) F (As := [vI r_2, vI a2, vI a3]) (st := []) vd_X11_226 (c_X11_wordRefusal G l M c0 r_2 a2 a3 hI_M hk_c0 (by omega)) hk_c0 rfl rfl rfl ⟨by decide, by decide⟩ rfl rfl (Nat.le_of_ble_eq_true rfl) dX11_runs_11 rfl ?_
    intro r_274 N_275 q_276
    obtain ⟨rfl, q_276c, hw_N_275⟩ := q_276
    rcases q_276c with q_276c | q_276c
    · exfalso; omega
    · refine kx_istore 16 F 4 (lo' := [some (vR G c0), some (vI a1), some (vI a2), some (vI a3), some (vI r_274), none, none, none]) dX11_runs_14 (by decide) rfl rfl rfl ?_
      refine kx_iload 18 F 4 dX11_runs_16 rfl rfl ?_
      refine kx_if_eq 21 F 28 dX11_runs_18 (by decide) rfl (by omega) (fun h_277 => (by exfalso; omega)) (fun h_277 => ?_)
      refine kx_aload_n 22 F 0 dX11_runs_21 rfl rfl rfl ?_
      refine kx_iload 24 F 4 dX11_runs_22 rfl rfl ?_
      refine kx_Vi 27 (ci := 0) F (As := [vI r_274]) (st := []) vd_X11_91 (c_X11_deny G l M c0 r_274 hI_M hk_c0 (by omega)) hk_c0 rfl rfl rfl ⟨by decide, by decide⟩ rfl rfl (Nat.le_of_ble_eq_true rfl) dX11_runs_24 rfl ?_
      intro r_278 N_279 q_280
      obtain ⟨hI_N_279, hG_N_279, q_280c⟩ := q_280
      have hF_N_279 : Fr f_c_X11_runs M N_279 := Fr.c hF_M hG_N_279 rfl
      subst q_280c
      exact kx_zret F hQ (by omega) ⟨hI_N_279, hF_N_279, (by omega)⟩ dX11_runs_27
theorem dX11_depth_0 : decode cX11_depth 0 = .ok (.aload_n 0, 1) := by decide +kernel
theorem dX11_depth_1 : decode cX11_depth 1 = .ok (.iload_n 3, 1) := by decide +kernel
theorem dX11_depth_2 : decode cX11_depth 2 = .ok (.iconst 0, 1) := by decide +kernel
theorem dX11_depth_3 : decode cX11_depth 3 = .ok (.iconst 2, 1) := by decide +kernel
theorem dX11_depth_4 : decode cX11_depth 4 = .ok (.invokestatic 87, 3) := by decide +kernel
theorem dX11_depth_7 : decode cX11_depth 7 = .ok (.iload_n 1, 1) := by decide +kernel
theorem dX11_depth_8 : decode cX11_depth 8 = .ok (.iload_n 2, 1) := by decide +kernel
theorem dX11_depth_9 : decode cX11_depth 9 = .ok (.invokevirtual 226, 3) := by decide +kernel
theorem dX11_depth_12 : decode cX11_depth 12 = .ok (.istore 4, 2) := by decide +kernel
theorem dX11_depth_14 : decode cX11_depth 14 = .ok (.iload 4, 2) := by decide +kernel
theorem dX11_depth_16 : decode cX11_depth 16 = .ok (.ifCond .eq 10, 3) := by decide +kernel
theorem dX11_depth_19 : decode cX11_depth 19 = .ok (.aload_n 0, 1) := by decide +kernel
theorem dX11_depth_20 : decode cX11_depth 20 = .ok (.iload 4, 2) := by decide +kernel
theorem dX11_depth_22 : decode cX11_depth 22 = .ok (.invokevirtual 110, 3) := by decide +kernel
theorem dX11_depth_25 : decode cX11_depth 25 = .ok (.ireturn, 1) := by decide +kernel
theorem dX11_depth_26 : decode cX11_depth 26 = .ok (.iconst 0, 1) := by decide +kernel
theorem dX11_depth_27 : decode cX11_depth 27 = .ok (.istore 5, 2) := by decide +kernel
theorem dX11_depth_29 : decode cX11_depth 29 = .ok (.iconst 0, 1) := by decide +kernel
theorem dX11_depth_30 : decode cX11_depth 30 = .ok (.istore 6, 2) := by decide +kernel
theorem dX11_depth_32 : decode cX11_depth 32 = .ok (.iconst 0, 1) := by decide +kernel
theorem dX11_depth_33 : decode cX11_depth 33 = .ok (.istore 7, 2) := by decide +kernel
theorem dX11_depth_35 : decode cX11_depth 35 = .ok (.iconst 0, 1) := by decide +kernel
theorem dX11_depth_36 : decode cX11_depth 36 = .ok (.istore 8, 2) := by decide +kernel
theorem dX11_depth_38 : decode cX11_depth 38 = .ok (.iload 8, 2) := by decide +kernel
theorem dX11_depth_40 : decode cX11_depth 40 = .ok (.iload_n 2, 1) := by decide +kernel
theorem dX11_depth_41 : decode cX11_depth 41 = .ok (.if_icmp .ge 64, 3) := by decide +kernel
theorem dX11_depth_44 : decode cX11_depth 44 = .ok (.aload_n 0, 1) := by decide +kernel
theorem dX11_depth_45 : decode cX11_depth 45 = .ok (.iload_n 1, 1) := by decide +kernel
theorem dX11_depth_46 : decode cX11_depth 46 = .ok (.iload 8, 2) := by decide +kernel
theorem dX11_depth_48 : decode cX11_depth 48 = .ok (.invokevirtual 256, 3) := by decide +kernel
theorem dX11_depth_51 : decode cX11_depth 51 = .ok (.istore 9, 2) := by decide +kernel
theorem dX11_depth_53 : decode cX11_depth 53 = .ok (.iload 9, 2) := by decide +kernel
theorem dX11_depth_55 : decode cX11_depth 55 = .ok (.ifCond .ne 18, 3) := by decide +kernel
theorem dX11_depth_58 : decode cX11_depth 58 = .ok (.iinc 5 1, 3) := by decide +kernel
theorem dX11_depth_61 : decode cX11_depth 61 = .ok (.iload 7, 2) := by decide +kernel
theorem dX11_depth_63 : decode cX11_depth 63 = .ok (.iload 5, 2) := by decide +kernel
theorem dX11_depth_65 : decode cX11_depth 65 = .ok (.invokestatic 259, 3) := by decide +kernel
theorem dX11_depth_68 : decode cX11_depth 68 = .ok (.istore 7, 2) := by decide +kernel
theorem dX11_depth_70 : decode cX11_depth 70 = .ok (.goto 29, 3) := by decide +kernel
theorem dX11_depth_73 : decode cX11_depth 73 = .ok (.iload 9, 2) := by decide +kernel
theorem dX11_depth_75 : decode cX11_depth 75 = .ok (.iconst 1, 1) := by decide +kernel
theorem dX11_depth_76 : decode cX11_depth 76 = .ok (.if_icmp .ne 14, 3) := by decide +kernel
theorem dX11_depth_79 : decode cX11_depth 79 = .ok (.iload 5, 2) := by decide +kernel
theorem dX11_depth_81 : decode cX11_depth 81 = .ok (.ifCond .le 9, 3) := by decide +kernel
theorem dX11_depth_84 : decode cX11_depth 84 = .ok (.iinc 5 (-1), 3) := by decide +kernel
theorem dX11_depth_87 : decode cX11_depth 87 = .ok (.goto 12, 3) := by decide +kernel
theorem dX11_depth_90 : decode cX11_depth 90 = .ok (.iload 9, 2) := by decide +kernel
theorem dX11_depth_92 : decode cX11_depth 92 = .ok (.iconst 1, 1) := by decide +kernel
theorem dX11_depth_93 : decode cX11_depth 93 = .ok (.if_icmp .ne 6, 3) := by decide +kernel
theorem dX11_depth_96 : decode cX11_depth 96 = .ok (.iinc 6 1, 3) := by decide +kernel
theorem dX11_depth_99 : decode cX11_depth 99 = .ok (.iinc 8 1, 3) := by decide +kernel
theorem dX11_depth_102 : decode cX11_depth 102 = .ok (.goto (-64), 3) := by decide +kernel
theorem dX11_depth_105 : decode cX11_depth 105 = .ok (.iload_n 3, 1) := by decide +kernel
theorem dX11_depth_106 : decode cX11_depth 106 = .ok (.ifCond .ne 10, 3) := by decide +kernel
theorem dX11_depth_109 : decode cX11_depth 109 = .ok (.aload_n 0, 1) := by decide +kernel
theorem dX11_depth_110 : decode cX11_depth 110 = .ok (.iload 5, 2) := by decide +kernel
theorem dX11_depth_112 : decode cX11_depth 112 = .ok (.invokevirtual 145, 3) := by decide +kernel
theorem dX11_depth_115 : decode cX11_depth 115 = .ok (.ireturn, 1) := by decide +kernel
theorem dX11_depth_116 : decode cX11_depth 116 = .ok (.aload_n 0, 1) := by decide +kernel
theorem dX11_depth_117 : decode cX11_depth 117 = .ok (.iload_n 3, 1) := by decide +kernel
theorem dX11_depth_118 : decode cX11_depth 118 = .ok (.iconst 1, 1) := by decide +kernel
theorem dX11_depth_119 : decode cX11_depth 119 = .ok (.if_icmp .ne 8, 3) := by decide +kernel
theorem dX11_depth_122 : decode cX11_depth 122 = .ok (.iload 6, 2) := by decide +kernel
theorem dX11_depth_124 : decode cX11_depth 124 = .ok (.goto 5, 3) := by decide +kernel
theorem dX11_depth_127 : decode cX11_depth 127 = .ok (.iload 7, 2) := by decide +kernel
theorem dX11_depth_129 : decode cX11_depth 129 = .ok (.invokevirtual 145, 3) := by decide +kernel
theorem dX11_depth_132 : decode cX11_depth 132 = .ok (.ireturn, 1) := by decide +kernel
abbrev f_c_X11_depth : List (Nat × Int) := [(62, 0)]
set_option maxHeartbeats 4000000 in
set_option maxRecDepth 100000 in
theorem c_X11_depth (G : KG) (l : Launch) (M : Mem) (c0 : Int) (a1 : Int) (a2 : Int) (a3 : Int) (hI_M : Inv false M) (hk_c0 : kd c0 = 62) (hpre : -2147483648 ≤ a1 ∧ a1 ≤ 2147483647 ∧ -2147483648 ≤ a2 ∧ a2 ≤ 2147483647 ∧ -2147483648 ≤ a3 ∧ a3 ≤ 2147483647) : KC false G l yX11_depth cX11_depth 10 (some .int) (3, 69) [vR G c0, vI a1, vI a2, vI a3] M (fun A => kQi false G A (fun (r : Int) (N : Mem) => Inv false N ∧ Fr f_c_X11_depth M N ∧ (r ≥ -1 ∧ r ≤ 20))) := by
  refine kx_met (lo := [some (vR G c0), some (vI a1), some (vI a2), some (vI a3), none, none, none, none, none, none]) (by decide) (Nat.le_of_ble_eq_true rfl) rfl ?_
  intro X F hQ
  have hF_M : Fr f_c_X11_depth M M := Fr.rf _ _
  refine kx_aload_n 1 F 0 dX11_depth_0 rfl rfl rfl ?_
  refine kx_iload_n 2 F 3 dX11_depth_1 rfl rfl rfl ?_
  refine kx_iconst 3 F dX11_depth_2 rfl ?_
  refine kx_iconst 4 F dX11_depth_3 rfl ?_
  refine kx_Si 7 F (As := [vI a3, vI 0, vI 2]) (st := [vR G c0]) sd_X11_87 (c_X11_within G l M a3 0 2 hI_M (by omega)) ⟨by decide, by decide⟩ rfl rfl (Nat.le_of_ble_eq_true rfl) dX11_depth_4 rfl ?_
  intro r_1 N_2 q_3
  obtain ⟨rfl, q_3c⟩ := q_3
  rcases q_3c with q_3c | q_3c
  · refine kx_iload_n 8 F 1 dX11_depth_7 rfl rfl rfl ?_
    refine kx_iload_n 9 F 2 dX11_depth_8 rfl rfl rfl ?_
    refine kx_Vi 12 (ci := 0) F (As := [vI r_1, vI a1, vI a2]) (st := []) vd_X11_226 (c_X11_wordRefusal G l M c0 r_1 a1 a2 hI_M hk_c0 (by omega)) hk_c0 rfl rfl rfl ⟨by decide, by decide⟩ rfl rfl (Nat.le_of_ble_eq_true rfl) dX11_depth_9 rfl ?_
    intro r_4 N_5 q_6
    obtain ⟨rfl, q_6c, hw_N_5⟩ := q_6
    rcases q_6c with q_6c | q_6c
    · refine kx_istore 14 F 4 (lo' := [some (vR G c0), some (vI a1), some (vI a2), some (vI a3), some (vI r_4), none, none, none, none, none]) dX11_depth_12 (by decide) rfl rfl rfl ?_
      refine kx_iload 16 F 4 dX11_depth_14 rfl rfl ?_
      refine kx_if_eq 19 F 26 dX11_depth_16 (by decide) rfl (by omega) (fun h_7 => ?_) (fun h_7 => (by exfalso; omega))
      refine kx_iconst 27 F dX11_depth_26 rfl ?_
      refine kx_istore 29 F 5 (lo' := [some (vR G c0), some (vI a1), some (vI a2), some (vI a3), some (vI r_4), some (vI 0), none, none, none, none]) dX11_depth_27 (by decide) rfl rfl rfl ?_
      refine kx_iconst 30 F dX11_depth_29 rfl ?_
      refine kx_istore 32 F 6 (lo' := [some (vR G c0), some (vI a1), some (vI a2), some (vI a3), some (vI r_4), some (vI 0), some (vI 0), none, none, none]) dX11_depth_30 (by decide) rfl rfl rfl ?_
      refine kx_iconst 33 F dX11_depth_32 rfl ?_
      refine kx_istore 35 F 7 (lo' := [some (vR G c0), some (vI a1), some (vI a2), some (vI a3), some (vI r_4), some (vI 0), some (vI 0), some (vI 0), none, none]) dX11_depth_33 (by decide) rfl rfl rfl ?_
      refine kx_iconst 36 F dX11_depth_35 rfl ?_
      refine kx_istore 38 F 8 (lo' := [some (vR G c0), some (vI a1), some (vI a2), some (vI a3), some (vI r_4), some (vI 0), some (vI 0), some (vI 0), some (vI 0), none]) dX11_depth_36 (by decide) rfl rfl rfl ?_
      have L_38 : ∀ (n_39 : Nat) (x5_34 : Int) (x6_35 : Int) (x7_36 : Int) (x8_37 : Int), 0 ≤ x5_34 ∧ x5_34 ≤ 20 ∧ 0 ≤ x6_35 ∧ x6_35 ≤ 20 ∧ 0 ≤ x7_36 ∧ x7_36 ≤ 20 ∧ 0 ≤ x8_37 ∧ x8_37 ≤ 20 ∧ x5_34 ≤ x8_37 ∧ x6_35 ≤ x8_37 ∧ x7_36 ≤ x8_37 → (20 - (x8_37)).toNat = n_39 → KJ false G X M 38 [some (vR G c0), some (vI a1), some (vI a2), some (vI a3), none, some (vI x5_34), some (vI x6_35), some (vI x7_36), some (vI x8_37), none] [] := by
        intro n_39
        refine Nat.strongRecOn n_39 ?_
        intro n_39 ih_40 x5_34 x6_35 x7_36 x8_37 h_41 hm_42
        refine kx_iload 40 F 8 dX11_depth_38 rfl rfl ?_
        refine kx_iload_n 41 F 2 dX11_depth_40 rfl rfl rfl ?_
        refine kx_icmp_ge 44 F 105 dX11_depth_41 (by decide) rfl (by omega) (by omega) (fun h_43 => ?_) (fun h_43 => ?_)
        · refine kx_iload_n 106 F 3 dX11_depth_105 rfl rfl rfl ?_
          refine kx_if_ne 109 F 116 dX11_depth_106 (by decide) rfl (by omega) (fun h_44 => ?_) (fun h_44 => ?_)
          · refine kx_aload_n 117 F 0 dX11_depth_116 rfl rfl rfl ?_
            refine kx_iload_n 118 F 3 dX11_depth_117 rfl rfl rfl ?_
            refine kx_iconst 119 F dX11_depth_118 rfl ?_
            refine kx_icmp_ne 122 F 127 dX11_depth_119 (by decide) rfl (by omega) (by decide) (fun h_45 => ?_) (fun h_45 => ?_)
            · refine kx_iload 129 F 7 dX11_depth_127 rfl rfl ?_
              refine kx_Vi 132 (ci := 0) F (As := [vI x7_36]) (st := []) vd_X11_145 (c_X11_answer G l M c0 x7_36 hI_M hk_c0 (by omega)) hk_c0 rfl rfl rfl ⟨by decide, by decide⟩ rfl rfl (Nat.le_of_ble_eq_true rfl) dX11_depth_129 rfl ?_
              intro r_46 N_47 q_48
              obtain ⟨hI_N_47, hG_N_47, q_48c⟩ := q_48
              have hF_N_47 : Fr f_c_X11_depth M N_47 := Fr.c hF_M hG_N_47 rfl
              exact kx_iret F hQ ⟨hI_N_47, hF_N_47, (by omega)⟩ dX11_depth_132
            · refine kx_iload 124 F 6 dX11_depth_122 rfl rfl ?_
              refine kx_goto 129 F dX11_depth_124 (by decide) ?_
              refine kx_Vi 132 (ci := 0) F (As := [vI x6_35]) (st := []) vd_X11_145 (c_X11_answer G l M c0 x6_35 hI_M hk_c0 (by omega)) hk_c0 rfl rfl rfl ⟨by decide, by decide⟩ rfl rfl (Nat.le_of_ble_eq_true rfl) dX11_depth_129 rfl ?_
              intro r_49 N_50 q_51
              obtain ⟨hI_N_50, hG_N_50, q_51c⟩ := q_51
              have hF_N_50 : Fr f_c_X11_depth M N_50 := Fr.c hF_M hG_N_50 rfl
              exact kx_iret F hQ ⟨hI_N_50, hF_N_50, (by omega)⟩ dX11_depth_132
          · refine kx_aload_n 110 F 0 dX11_depth_109 rfl rfl rfl ?_
            refine kx_iload 112 F 5 dX11_depth_110 rfl rfl ?_
            refine kx_Vi 115 (ci := 0) F (As := [vI x5_34]) (st := []) vd_X11_145 (c_X11_answer G l M c0 x5_34 hI_M hk_c0 (by omega)) hk_c0 rfl rfl rfl ⟨by decide, by decide⟩ rfl rfl (Nat.le_of_ble_eq_true rfl) dX11_depth_112 rfl ?_
            intro r_52 N_53 q_54
            obtain ⟨hI_N_53, hG_N_53, q_54c⟩ := q_54
            have hF_N_53 : Fr f_c_X11_depth M N_53 := Fr.c hF_M hG_N_53 rfl
            exact kx_iret F hQ ⟨hI_N_53, hF_N_53, (by omega)⟩ dX11_depth_115
        · refine kx_aload_n 45 F 0 dX11_depth_44 rfl rfl rfl ?_
          refine kx_iload_n 46 F 1 dX11_depth_45 rfl rfl rfl ?_
          refine kx_iload 48 F 8 dX11_depth_46 rfl rfl ?_
          refine kx_Vi 51 (ci := 0) F (As := [vI a1, vI x8_37]) (st := []) vd_X11_256 (c_X11_sortAt G l M c0 a1 x8_37 hI_M hk_c0 (by omega)) hk_c0 rfl rfl rfl ⟨by decide, by decide⟩ rfl rfl (Nat.le_of_ble_eq_true rfl) dX11_depth_48 rfl ?_
          intro r_55 N_56 q_57
          obtain ⟨rfl, q_57c⟩ := q_57
          refine kx_istore 53 F 9 (lo' := [some (vR G c0), some (vI a1), some (vI a2), some (vI a3), none, some (vI x5_34), some (vI x6_35), some (vI x7_36), some (vI x8_37), some (vI r_55)]) dX11_depth_51 (by decide) rfl rfl rfl ?_
          refine kx_iload 55 F 9 dX11_depth_53 rfl rfl ?_
          refine kx_if_ne 58 F 73 dX11_depth_55 (by decide) rfl (by omega) (fun h_58 => ?_) (fun h_58 => ?_)
          · refine kx_iload 75 F 9 dX11_depth_73 rfl rfl ?_
            refine kx_iconst 76 F dX11_depth_75 rfl ?_
            refine kx_icmp_ne 79 F 90 dX11_depth_76 (by decide) rfl (by omega) (by decide) (fun h_59 => ?_) (fun h_59 => ?_)
            · refine kx_iload 92 F 9 dX11_depth_90 rfl rfl ?_
              refine kx_iconst 93 F dX11_depth_92 rfl ?_
              refine kx_icmp_ne 96 F 99 dX11_depth_93 (by decide) rfl (by omega) (by decide) (fun h_60 => ?_) (fun h_60 => (by exfalso; omega))
              refine kx_iinc 102 F 8 (v := x8_37 + 1) (lo' := [some (vR G c0), some (vI a1), some (vI a2), some (vI a3), none, some (vI x5_34), some (vI x6_35), some (vI x7_36), some (vI (x8_37 + 1)), some (vI r_55)]) dX11_depth_99 rfl (by omega) (by decide) rfl rfl rfl ?_
              refine kx_goto 38 F dX11_depth_102 (by decide) ?_
              refine kx_drop 9 (lo' := [some (vR G c0), some (vI a1), some (vI a2), some (vI a3), none, some (vI x5_34), some (vI x6_35), some (vI x7_36), some (vI (x8_37 + 1)), none]) rfl ?_
              exact ih_40 _ (by omega) x5_34 x6_35 x7_36 (x8_37 + 1) (by omega) rfl
            · refine kx_iload 81 F 5 dX11_depth_79 rfl rfl ?_
              refine kx_if_le 84 F 90 dX11_depth_81 (by decide) rfl (by omega) (fun h_61 => ?_) (fun h_61 => ?_)
              · refine kx_iload 92 F 9 dX11_depth_90 rfl rfl ?_
                refine kx_iconst 93 F dX11_depth_92 rfl ?_
                refine kx_icmp_ne 96 F 99 dX11_depth_93 (by decide) rfl (by omega) (by decide) (fun h_62 => (by exfalso; omega)) (fun h_62 => ?_)
                refine kx_iinc 99 F 6 (v := x6_35 + 1) (lo' := [some (vR G c0), some (vI a1), some (vI a2), some (vI a3), none, some (vI x5_34), some (vI (x6_35 + 1)), some (vI x7_36), some (vI x8_37), some (vI r_55)]) dX11_depth_96 rfl (by omega) (by decide) rfl rfl rfl ?_
                refine kx_iinc 102 F 8 (v := x8_37 + 1) (lo' := [some (vR G c0), some (vI a1), some (vI a2), some (vI a3), none, some (vI x5_34), some (vI (x6_35 + 1)), some (vI x7_36), some (vI (x8_37 + 1)), some (vI r_55)]) dX11_depth_99 rfl (by omega) (by decide) rfl rfl rfl ?_
                refine kx_goto 38 F dX11_depth_102 (by decide) ?_
                refine kx_drop 9 (lo' := [some (vR G c0), some (vI a1), some (vI a2), some (vI a3), none, some (vI x5_34), some (vI (x6_35 + 1)), some (vI x7_36), some (vI (x8_37 + 1)), none]) rfl ?_
                exact ih_40 _ (by omega) x5_34 (x6_35 + 1) x7_36 (x8_37 + 1) (by omega) rfl
              · refine kx_iinc 87 F 5 (v := x5_34 - 1) (lo' := [some (vR G c0), some (vI a1), some (vI a2), some (vI a3), none, some (vI (x5_34 - 1)), some (vI x6_35), some (vI x7_36), some (vI x8_37), some (vI r_55)]) dX11_depth_84 rfl (by omega) (by decide) rfl rfl rfl ?_
                refine kx_goto 99 F dX11_depth_87 (by decide) ?_
                refine kx_iinc 102 F 8 (v := x8_37 + 1) (lo' := [some (vR G c0), some (vI a1), some (vI a2), some (vI a3), none, some (vI (x5_34 - 1)), some (vI x6_35), some (vI x7_36), some (vI (x8_37 + 1)), some (vI r_55)]) dX11_depth_99 rfl (by omega) (by decide) rfl rfl rfl ?_
                refine kx_goto 38 F dX11_depth_102 (by decide) ?_
                refine kx_drop 9 (lo' := [some (vR G c0), some (vI a1), some (vI a2), some (vI a3), none, some (vI (x5_34 - 1)), some (vI x6_35), some (vI x7_36), some (vI (x8_37 + 1)), none]) rfl ?_
                exact ih_40 _ (by omega) (x5_34 - 1) x6_35 x7_36 (x8_37 + 1) (by omega) rfl
          · refine kx_iinc 61 F 5 (v := x5_34 + 1) (lo' := [some (vR G c0), some (vI a1), some (vI a2), some (vI a3), none, some (vI (x5_34 + 1)), some (vI x6_35), some (vI x7_36), some (vI x8_37), some (vI r_55)]) dX11_depth_58 rfl (by omega) (by decide) rfl rfl rfl ?_
            refine kx_iload 63 F 7 dX11_depth_61 rfl rfl ?_
            refine kx_iload 65 F 5 dX11_depth_63 rfl rfl ?_
            refine kx_mmax 68 F dX11_depth_65 (tt lm_1184 rfl) (tt lm_480 rfl) (tt lm_180 rfl) (tt lm_481 rfl) (by decide) (Nat.le_of_ble_eq_true rfl) (by omega) (by omega) rfl (fun w_63 h_64 => ?_)
            refine kx_istore 70 F 7 (lo' := [some (vR G c0), some (vI a1), some (vI a2), some (vI a3), none, some (vI (x5_34 + 1)), some (vI x6_35), some (vI w_63), some (vI x8_37), some (vI r_55)]) dX11_depth_68 (by decide) rfl rfl rfl ?_
            refine kx_goto 99 F dX11_depth_70 (by decide) ?_
            refine kx_iinc 102 F 8 (v := x8_37 + 1) (lo' := [some (vR G c0), some (vI a1), some (vI a2), some (vI a3), none, some (vI (x5_34 + 1)), some (vI x6_35), some (vI w_63), some (vI (x8_37 + 1)), some (vI r_55)]) dX11_depth_99 rfl (by omega) (by decide) rfl rfl rfl ?_
            refine kx_goto 38 F dX11_depth_102 (by decide) ?_
            refine kx_drop 9 (lo' := [some (vR G c0), some (vI a1), some (vI a2), some (vI a3), none, some (vI (x5_34 + 1)), some (vI x6_35), some (vI w_63), some (vI (x8_37 + 1)), none]) rfl ?_
            exact ih_40 _ (by omega) (x5_34 + 1) x6_35 w_63 (x8_37 + 1) (by omega) rfl
      refine kx_drop 4 (lo' := [some (vR G c0), some (vI a1), some (vI a2), some (vI a3), none, some (vI 0), some (vI 0), some (vI 0), some (vI 0), none]) rfl ?_
      exact L_38 _ 0 0 0 0 (by omega) rfl
    · refine kx_istore 14 F 4 (lo' := [some (vR G c0), some (vI a1), some (vI a2), some (vI a3), some (vI r_4), none, none, none, none, none]) dX11_depth_12 (by decide) rfl rfl rfl ?_
      refine kx_iload 16 F 4 dX11_depth_14 rfl rfl ?_
      refine kx_if_eq 19 F 26 dX11_depth_16 (by decide) rfl (by omega) (fun h_65 => (by exfalso; omega)) (fun h_65 => ?_)
      refine kx_aload_n 20 F 0 dX11_depth_19 rfl rfl rfl ?_
      refine kx_iload 22 F 4 dX11_depth_20 rfl rfl ?_
      refine kx_Vi 25 (ci := 0) F (As := [vI r_4]) (st := []) vd_X11_110 (c_X11_refuse G l M c0 r_4 hI_M hk_c0 (by omega)) hk_c0 rfl rfl rfl ⟨by decide, by decide⟩ rfl rfl (Nat.le_of_ble_eq_true rfl) dX11_depth_22 rfl ?_
      intro r_66 N_67 q_68
      obtain ⟨hI_N_67, hG_N_67, q_68c⟩ := q_68
      have hF_N_67 : Fr f_c_X11_depth M N_67 := Fr.c hF_M hG_N_67 rfl
      subst q_68c
      exact kx_iret F hQ ⟨hI_N_67, hF_N_67, (by omega)⟩ dX11_depth_25
  · refine kx_iload_n 8 F 1 dX11_depth_7 rfl rfl rfl ?_
    refine kx_iload_n 9 F 2 dX11_depth_8 rfl rfl rfl ?_
    refine kx_Vi 12 (ci := 0) F (As := [vI r_1, vI a1, vI a2]) (st := []) vd_X11_226 (c_X11_wordRefusal G l M c0 r_1 a1 a2 hI_M hk_c0 (by omega)) hk_c0 rfl rfl rfl ⟨by decide, by decide⟩ rfl rfl (Nat.le_of_ble_eq_true rfl) dX11_depth_9 rfl ?_
    intro r_69 N_70 q_71
    obtain ⟨rfl, q_71c, hw_N_70⟩ := q_71
    rcases q_71c with q_71c | q_71c
    · exfalso; omega
    · refine kx_istore 14 F 4 (lo' := [some (vR G c0), some (vI a1), some (vI a2), some (vI a3), some (vI r_69), none, none, none, none, none]) dX11_depth_12 (by decide) rfl rfl rfl ?_
      refine kx_iload 16 F 4 dX11_depth_14 rfl rfl ?_
      refine kx_if_eq 19 F 26 dX11_depth_16 (by decide) rfl (by omega) (fun h_72 => (by exfalso; omega)) (fun h_72 => ?_)
      refine kx_aload_n 20 F 0 dX11_depth_19 rfl rfl rfl ?_
      refine kx_iload 22 F 4 dX11_depth_20 rfl rfl ?_
      refine kx_Vi 25 (ci := 0) F (As := [vI r_69]) (st := []) vd_X11_110 (c_X11_refuse G l M c0 r_69 hI_M hk_c0 (by omega)) hk_c0 rfl rfl rfl ⟨by decide, by decide⟩ rfl rfl (Nat.le_of_ble_eq_true rfl) dX11_depth_22 rfl ?_
      intro r_73 N_74 q_75
      obtain ⟨hI_N_74, hG_N_74, q_75c⟩ := q_75
      have hF_N_74 : Fr f_c_X11_depth M N_74 := Fr.c hF_M hG_N_74 rfl
      subst q_75c
      exact kx_iret F hQ ⟨hI_N_74, hF_N_74, (by omega)⟩ dX11_depth_25
theorem dX11_partner_0 : decode cX11_partner 0 = .ok (.aload_n 0, 1) := by decide +kernel
theorem dX11_partner_1 : decode cX11_partner 1 = .ok (.iload_n 3, 1) := by decide +kernel
theorem dX11_partner_2 : decode cX11_partner 2 = .ok (.ifCond .lt 12, 3) := by decide +kernel
theorem dX11_partner_5 : decode cX11_partner 5 = .ok (.iload_n 3, 1) := by decide +kernel
theorem dX11_partner_6 : decode cX11_partner 6 = .ok (.iload_n 2, 1) := by decide +kernel
theorem dX11_partner_7 : decode cX11_partner 7 = .ok (.if_icmp .ge 7, 3) := by decide +kernel
theorem dX11_partner_10 : decode cX11_partner 10 = .ok (.iconst 1, 1) := by decide +kernel
theorem dX11_partner_11 : decode cX11_partner 11 = .ok (.goto 4, 3) := by decide +kernel
theorem dX11_partner_14 : decode cX11_partner 14 = .ok (.iconst 0, 1) := by decide +kernel
theorem dX11_partner_15 : decode cX11_partner 15 = .ok (.iload_n 1, 1) := by decide +kernel
theorem dX11_partner_16 : decode cX11_partner 16 = .ok (.iload_n 2, 1) := by decide +kernel
theorem dX11_partner_17 : decode cX11_partner 17 = .ok (.invokevirtual 226, 3) := by decide +kernel
theorem dX11_partner_20 : decode cX11_partner 20 = .ok (.istore 4, 2) := by decide +kernel
theorem dX11_partner_22 : decode cX11_partner 22 = .ok (.iload 4, 2) := by decide +kernel
theorem dX11_partner_24 : decode cX11_partner 24 = .ok (.ifCond .eq 10, 3) := by decide +kernel
theorem dX11_partner_27 : decode cX11_partner 27 = .ok (.aload_n 0, 1) := by decide +kernel
theorem dX11_partner_28 : decode cX11_partner 28 = .ok (.iload 4, 2) := by decide +kernel
theorem dX11_partner_30 : decode cX11_partner 30 = .ok (.invokevirtual 110, 3) := by decide +kernel
theorem dX11_partner_33 : decode cX11_partner 33 = .ok (.ireturn, 1) := by decide +kernel
theorem dX11_partner_34 : decode cX11_partner 34 = .ok (.aload_n 0, 1) := by decide +kernel
theorem dX11_partner_35 : decode cX11_partner 35 = .ok (.iload_n 1, 1) := by decide +kernel
theorem dX11_partner_36 : decode cX11_partner 36 = .ok (.iload_n 2, 1) := by decide +kernel
theorem dX11_partner_37 : decode cX11_partner 37 = .ok (.iload_n 3, 1) := by decide +kernel
theorem dX11_partner_38 : decode cX11_partner 38 = .ok (.invokevirtual 264, 3) := by decide +kernel
theorem dX11_partner_41 : decode cX11_partner 41 = .ok (.istore 5, 2) := by decide +kernel
theorem dX11_partner_43 : decode cX11_partner 43 = .ok (.iload 5, 2) := by decide +kernel
theorem dX11_partner_45 : decode cX11_partner 45 = .ok (.iconst (-1), 1) := by decide +kernel
theorem dX11_partner_46 : decode cX11_partner 46 = .ok (.if_icmp .ne 12, 3) := by decide +kernel
theorem dX11_partner_49 : decode cX11_partner 49 = .ok (.aload_n 0, 1) := by decide +kernel
theorem dX11_partner_50 : decode cX11_partner 50 = .ok (.bipush 6, 2) := by decide +kernel
theorem dX11_partner_52 : decode cX11_partner 52 = .ok (.invokevirtual 110, 3) := by decide +kernel
theorem dX11_partner_55 : decode cX11_partner 55 = .ok (.goto 9, 3) := by decide +kernel
theorem dX11_partner_58 : decode cX11_partner 58 = .ok (.aload_n 0, 1) := by decide +kernel
theorem dX11_partner_59 : decode cX11_partner 59 = .ok (.iload 5, 2) := by decide +kernel
theorem dX11_partner_61 : decode cX11_partner 61 = .ok (.invokevirtual 145, 3) := by decide +kernel
theorem dX11_partner_64 : decode cX11_partner 64 = .ok (.ireturn, 1) := by decide +kernel
abbrev f_c_X11_partner : List (Nat × Int) := [(62, 0)]
set_option maxHeartbeats 4000000 in
set_option maxRecDepth 100000 in
theorem c_X11_partner (G : KG) (l : Launch) (M : Mem) (c0 : Int) (a1 : Int) (a2 : Int) (a3 : Int) (hI_M : Inv false M) (hk_c0 : kd c0 = 62) (hpre : -2147483648 ≤ a1 ∧ a1 ≤ 2147483647 ∧ -2147483648 ≤ a2 ∧ a2 ≤ 2147483647 ∧ -2147483648 ≤ a3 ∧ a3 ≤ 2147483647) : KC false G l yX11_partner cX11_partner 6 (some .int) (4, 92) [vR G c0, vI a1, vI a2, vI a3] M (fun A => kQi false G A (fun (r : Int) (N : Mem) => Inv false N ∧ Fr f_c_X11_partner M N ∧ (r ≥ -1 ∧ r ≤ 19))) := by
  refine kx_met (lo := [some (vR G c0), some (vI a1), some (vI a2), some (vI a3), none, none]) (by decide) (Nat.le_of_ble_eq_true rfl) rfl ?_
  intro X F hQ
  have hF_M : Fr f_c_X11_partner M M := Fr.rf _ _
  refine kx_aload_n 1 F 0 dX11_partner_0 rfl rfl rfl ?_
  refine kx_iload_n 2 F 3 dX11_partner_1 rfl rfl rfl ?_
  refine kx_if_lt 5 F 14 dX11_partner_2 (by decide) rfl (by omega) (fun h_1 => ?_) (fun h_1 => ?_)
  · refine kx_iconst 15 F dX11_partner_14 rfl ?_
    refine kx_iload_n 16 F 1 dX11_partner_15 rfl rfl rfl ?_
    refine kx_iload_n 17 F 2 dX11_partner_16 rfl rfl rfl ?_
    refine kx_Vi 20 (ci := 0) F (As := [vI 0, vI a1, vI a2]) (st := []) vd_X11_226 (c_X11_wordRefusal G l M c0 0 a1 a2 hI_M hk_c0 (by omega)) hk_c0 rfl rfl rfl ⟨by decide, by decide⟩ rfl rfl (Nat.le_of_ble_eq_true rfl) dX11_partner_17 rfl ?_
    intro r_2 N_3 q_4
    obtain ⟨rfl, q_4c, hw_N_3⟩ := q_4
    rcases q_4c with q_4c | q_4c
    · exfalso; omega
    · refine kx_istore 22 F 4 (lo' := [some (vR G c0), some (vI a1), some (vI a2), some (vI a3), some (vI r_2), none]) dX11_partner_20 (by decide) rfl rfl rfl ?_
      refine kx_iload 24 F 4 dX11_partner_22 rfl rfl ?_
      refine kx_if_eq 27 F 34 dX11_partner_24 (by decide) rfl (by omega) (fun h_5 => (by exfalso; omega)) (fun h_5 => ?_)
      refine kx_aload_n 28 F 0 dX11_partner_27 rfl rfl rfl ?_
      refine kx_iload 30 F 4 dX11_partner_28 rfl rfl ?_
      refine kx_Vi 33 (ci := 0) F (As := [vI r_2]) (st := []) vd_X11_110 (c_X11_refuse G l M c0 r_2 hI_M hk_c0 (by omega)) hk_c0 rfl rfl rfl ⟨by decide, by decide⟩ rfl rfl (Nat.le_of_ble_eq_true rfl) dX11_partner_30 rfl ?_
      intro r_6 N_7 q_8
      obtain ⟨hI_N_7, hG_N_7, q_8c⟩ := q_8
      have hF_N_7 : Fr f_c_X11_partner M N_7 := Fr.c hF_M hG_N_7 rfl
      subst q_8c
      exact kx_iret F hQ ⟨hI_N_7, hF_N_7, (by omega)⟩ dX11_partner_33
  · refine kx_iload_n 6 F 3 dX11_partner_5 rfl rfl rfl ?_
    refine kx_iload_n 7 F 2 dX11_partner_6 rfl rfl rfl ?_
    refine kx_icmp_ge 10 F 14 dX11_partner_7 (by decide) rfl (by omega) (by omega) (fun h_9 => ?_) (fun h_9 => ?_)
    · refine kx_iconst 15 F dX11_partner_14 rfl ?_
      refine kx_iload_n 16 F 1 dX11_partner_15 rfl rfl rfl ?_
      refine kx_iload_n 17 F 2 dX11_partner_16 rfl rfl rfl ?_
      refine kx_Vi 20 (ci := 0) F (As := [vI 0, vI a1, vI a2]) (st := []) vd_X11_226 (c_X11_wordRefusal G l M c0 0 a1 a2 hI_M hk_c0 (by omega)) hk_c0 rfl rfl rfl ⟨by decide, by decide⟩ rfl rfl (Nat.le_of_ble_eq_true rfl) dX11_partner_17 rfl ?_
      intro r_10 N_11 q_12
      obtain ⟨rfl, q_12c, hw_N_11⟩ := q_12
      rcases q_12c with q_12c | q_12c
      · exfalso; omega
      · refine kx_istore 22 F 4 (lo' := [some (vR G c0), some (vI a1), some (vI a2), some (vI a3), some (vI r_10), none]) dX11_partner_20 (by decide) rfl rfl rfl ?_
        refine kx_iload 24 F 4 dX11_partner_22 rfl rfl ?_
        refine kx_if_eq 27 F 34 dX11_partner_24 (by decide) rfl (by omega) (fun h_13 => (by exfalso; omega)) (fun h_13 => ?_)
        refine kx_aload_n 28 F 0 dX11_partner_27 rfl rfl rfl ?_
        refine kx_iload 30 F 4 dX11_partner_28 rfl rfl ?_
        refine kx_Vi 33 (ci := 0) F (As := [vI r_10]) (st := []) vd_X11_110 (c_X11_refuse G l M c0 r_10 hI_M hk_c0 (by omega)) hk_c0 rfl rfl rfl ⟨by decide, by decide⟩ rfl rfl (Nat.le_of_ble_eq_true rfl) dX11_partner_30 rfl ?_
        intro r_14 N_15 q_16
        obtain ⟨hI_N_15, hG_N_15, q_16c⟩ := q_16
        have hF_N_15 : Fr f_c_X11_partner M N_15 := Fr.c hF_M hG_N_15 rfl
        subst q_16c
        exact kx_iret F hQ ⟨hI_N_15, hF_N_15, (by omega)⟩ dX11_partner_33
    · refine kx_iconst 11 F dX11_partner_10 rfl ?_
      refine kx_goto 15 F dX11_partner_11 (by decide) ?_
      refine kx_iload_n 16 F 1 dX11_partner_15 rfl rfl rfl ?_
      refine kx_iload_n 17 F 2 dX11_partner_16 rfl rfl rfl ?_
      refine kx_Vi 20 (ci := 0) F (As := [vI 1, vI a1, vI a2]) (st := []) vd_X11_226 (c_X11_wordRefusal G l M c0 1 a1 a2 hI_M hk_c0 (by omega)) hk_c0 rfl rfl rfl ⟨by decide, by decide⟩ rfl rfl (Nat.le_of_ble_eq_true rfl) dX11_partner_17 rfl ?_
      intro r_17 N_18 q_19
      obtain ⟨rfl, q_19c, hw_N_18⟩ := q_19
      rcases q_19c with q_19c | q_19c
      · refine kx_istore 22 F 4 (lo' := [some (vR G c0), some (vI a1), some (vI a2), some (vI a3), some (vI r_17), none]) dX11_partner_20 (by decide) rfl rfl rfl ?_
        refine kx_iload 24 F 4 dX11_partner_22 rfl rfl ?_
        refine kx_if_eq 27 F 34 dX11_partner_24 (by decide) rfl (by omega) (fun h_20 => ?_) (fun h_20 => (by exfalso; omega))
        refine kx_aload_n 35 F 0 dX11_partner_34 rfl rfl rfl ?_
        refine kx_iload_n 36 F 1 dX11_partner_35 rfl rfl rfl ?_
        refine kx_iload_n 37 F 2 dX11_partner_36 rfl rfl rfl ?_
        refine kx_iload_n 38 F 3 dX11_partner_37 rfl rfl rfl ?_
        refine kx_Vi 41 (ci := 0) F (As := [vI a1, vI a2, vI a3]) (st := []) vd_X11_264 (c_X11_partnerPlace G l M c0 a1 a2 a3 hI_M hk_c0 (by omega)) hk_c0 rfl rfl rfl ⟨by decide, by decide⟩ rfl rfl (Nat.le_of_ble_eq_true rfl) dX11_partner_38 rfl ?_
        intro r_21 N_22 q_23
        obtain ⟨rfl, q_23c⟩ := q_23
        refine kx_istore 43 F 5 (lo' := [some (vR G c0), some (vI a1), some (vI a2), some (vI a3), some (vI r_17), some (vI r_21)]) dX11_partner_41 (by decide) rfl rfl rfl ?_
        refine kx_iload 45 F 5 dX11_partner_43 rfl rfl ?_
        refine kx_iconst 46 F dX11_partner_45 rfl ?_
        refine kx_icmp_ne 49 F 58 dX11_partner_46 (by decide) rfl (by omega) (by decide) (fun h_24 => ?_) (fun h_24 => ?_)
        · refine kx_aload_n 59 F 0 dX11_partner_58 rfl rfl rfl ?_
          refine kx_iload 61 F 5 dX11_partner_59 rfl rfl ?_
          refine kx_Vi 64 (ci := 0) F (As := [vI r_21]) (st := []) vd_X11_145 (c_X11_answer G l M c0 r_21 hI_M hk_c0 (by omega)) hk_c0 rfl rfl rfl ⟨by decide, by decide⟩ rfl rfl (Nat.le_of_ble_eq_true rfl) dX11_partner_61 rfl ?_
          intro r_25 N_26 q_27
          obtain ⟨hI_N_26, hG_N_26, q_27c⟩ := q_27
          have hF_N_26 : Fr f_c_X11_partner M N_26 := Fr.c hF_M hG_N_26 rfl
          exact kx_iret F hQ ⟨hI_N_26, hF_N_26, (by omega)⟩ dX11_partner_64
        · refine kx_aload_n 50 F 0 dX11_partner_49 rfl rfl rfl ?_
          refine kx_bipush 52 F dX11_partner_50 (by decide) rfl ?_
          refine kx_Vi 55 (ci := 0) F (As := [vI 6]) (st := []) vd_X11_110 (c_X11_refuse G l M c0 6 hI_M hk_c0 (by omega)) hk_c0 rfl rfl rfl ⟨by decide, by decide⟩ rfl rfl (Nat.le_of_ble_eq_true rfl) dX11_partner_52 rfl ?_
          intro r_28 N_29 q_30
          obtain ⟨hI_N_29, hG_N_29, q_30c⟩ := q_30
          have hF_N_29 : Fr f_c_X11_partner M N_29 := Fr.c hF_M hG_N_29 rfl
          subst q_30c
          refine kx_goto 64 F dX11_partner_55 (by decide) ?_
          exact kx_iret F hQ ⟨hI_N_29, hF_N_29, (by omega)⟩ dX11_partner_64
      · refine kx_istore 22 F 4 (lo' := [some (vR G c0), some (vI a1), some (vI a2), some (vI a3), some (vI r_17), none]) dX11_partner_20 (by decide) rfl rfl rfl ?_
        refine kx_iload 24 F 4 dX11_partner_22 rfl rfl ?_
        refine kx_if_eq 27 F 34 dX11_partner_24 (by decide) rfl (by omega) (fun h_31 => (by exfalso; omega)) (fun h_31 => ?_)
        refine kx_aload_n 28 F 0 dX11_partner_27 rfl rfl rfl ?_
        refine kx_iload 30 F 4 dX11_partner_28 rfl rfl ?_
        refine kx_Vi 33 (ci := 0) F (As := [vI r_17]) (st := []) vd_X11_110 (c_X11_refuse G l M c0 r_17 hI_M hk_c0 (by omega)) hk_c0 rfl rfl rfl ⟨by decide, by decide⟩ rfl rfl (Nat.le_of_ble_eq_true rfl) dX11_partner_30 rfl ?_
        intro r_32 N_33 q_34
        obtain ⟨hI_N_33, hG_N_33, q_34c⟩ := q_34
        have hF_N_33 : Fr f_c_X11_partner M N_33 := Fr.c hF_M hG_N_33 rfl
        subst q_34c
        exact kx_iret F hQ ⟨hI_N_33, hF_N_33, (by omega)⟩ dX11_partner_33
theorem dX11_table_0 : decode cX11_table 0 = .ok (.aload_n 0, 1) := by decide +kernel
theorem dX11_table_1 : decode cX11_table 1 = .ok (.getfield 26, 3) := by decide +kernel
theorem dX11_table_4 : decode cX11_table 4 = .ok (.iload_n 1, 1) := by decide +kernel
theorem dX11_table_5 : decode cX11_table 5 = .ok (.invokevirtual 163, 3) := by decide +kernel
theorem dX11_table_8 : decode cX11_table 8 = .ok (.ifCond .ne 9, 3) := by decide +kernel
theorem dX11_table_11 : decode cX11_table 11 = .ok (.aload_n 0, 1) := by decide +kernel
theorem dX11_table_12 : decode cX11_table 12 = .ok (.iconst 1, 1) := by decide +kernel
theorem dX11_table_13 : decode cX11_table 13 = .ok (.invokevirtual 110, 3) := by decide +kernel
theorem dX11_table_16 : decode cX11_table 16 = .ok (.ireturn, 1) := by decide +kernel
theorem dX11_table_17 : decode cX11_table 17 = .ok (.aload_n 0, 1) := by decide +kernel
theorem dX11_table_18 : decode cX11_table 18 = .ok (.iload_n 1, 1) := by decide +kernel
theorem dX11_table_19 : decode cX11_table 19 = .ok (.invokevirtual 268, 3) := by decide +kernel
theorem dX11_table_22 : decode cX11_table 22 = .ok (.astore_n 2, 1) := by decide +kernel
theorem dX11_table_23 : decode cX11_table 23 = .ok (.aload_n 2, 1) := by decide +kernel
theorem dX11_table_24 : decode cX11_table 24 = .ok (.invokevirtual 272, 3) := by decide +kernel
theorem dX11_table_27 : decode cX11_table 27 = .ok (.ifCond .eq 14, 3) := by decide +kernel
theorem dX11_table_30 : decode cX11_table 30 = .ok (.aload_n 0, 1) := by decide +kernel
theorem dX11_table_31 : decode cX11_table 31 = .ok (.aload_n 2, 1) := by decide +kernel
theorem dX11_table_32 : decode cX11_table 32 = .ok (.getfield 275, 3) := by decide +kernel
theorem dX11_table_35 : decode cX11_table 35 = .ok (.invokevirtual 145, 3) := by decide +kernel
theorem dX11_table_38 : decode cX11_table 38 = .ok (.goto 9, 3) := by decide +kernel
theorem dX11_table_41 : decode cX11_table 41 = .ok (.aload_n 0, 1) := by decide +kernel
theorem dX11_table_42 : decode cX11_table 42 = .ok (.bipush 7, 2) := by decide +kernel
theorem dX11_table_44 : decode cX11_table 44 = .ok (.invokevirtual 110, 3) := by decide +kernel
theorem dX11_table_47 : decode cX11_table 47 = .ok (.ireturn, 1) := by decide +kernel
abbrev f_c_X11_table : List (Nat × Int) := [(21, 0), (21, 1), (22, -1), (23, -1), (24, -1), (25, -1), (62, 0)]
set_option maxHeartbeats 4000000 in
set_option maxRecDepth 100000 in
theorem c_X11_table (G : KG) (l : Launch) (M : Mem) (c0 : Int) (a1 : Int) (hI_M : Inv false M) (hk_c0 : kd c0 = 62) (hpre : -2147483648 ≤ a1 ∧ a1 ≤ 2147483647) (hX_M : XX M) : KC false G l yX11_table cX11_table 3 (some .int) (5, 119) [vR G c0, vI a1] M (fun A => kQi false G A (fun (r : Int) (N : Mem) => Inv false N ∧ Fr f_c_X11_table M N ∧ (r ≥ -1 ∧ r ≤ 40) ∧ XX N)) := by
  refine kx_met (lo := [some (vR G c0), some (vI a1), none]) (by decide) (Nat.le_of_ble_eq_true rfl) rfl ?_
  intro X F hQ
  have hF_M : Fr f_c_X11_table M M := Fr.rf _ _
  refine kx_aload_n 1 F 0 dX11_table_0 rfl rfl rfl ?_
  refine kx_getr 4 F fl_X11_26 hk_c0 rfl rfl (j := 5) rfl dX11_table_1 (v := (M c0 5)) rfl rfl ?_
  have hk_1 : kd (M c0 5) = 12 := Inv.r hI_M hk_c0 rfl 5 rfl rfl
  refine kx_iload_n 5 F 1 dX11_table_4 rfl rfl rfl ?_
  refine kx_Vi 8 (ci := 0) F (As := [vI a1]) (st := []) vd_X11_163 (c_X5_has G l M (M c0 5) a1 hI_M hk_1 (by omega)) hk_1 rfl rfl rfl ⟨by decide, by decide⟩ rfl rfl (Nat.le_of_ble_eq_true rfl) dX11_table_5 rfl ?_
  intro r_2 N_3 q_4
  obtain ⟨rfl, q_4c⟩ := q_4
  have h_5 := Inv.g hI_M hk_1 rfl 3 (a := 0) (b := 2) rfl rfl
  rcases q_4c with q_4c | q_4c
  · refine kx_if_ne 11 F 17 dX11_table_8 (by decide) rfl (by omega) (fun h_6 => ?_) (fun h_6 => (by exfalso; omega))
    refine kx_aload_n 18 F 0 dX11_table_17 rfl rfl rfl ?_
    refine kx_iload_n 19 F 1 dX11_table_18 rfl rfl rfl ?_
    refine kx_Vr 22 (ci := 0) F (As := [vI a1]) (st := []) vd_X11_268 (c_X11_tableOf G l M c0 a1 hI_M hk_c0 (by omega) hX_M) hk_c0 rfl rfl rfl ⟨by decide, by decide⟩ rfl rfl (Nat.le_of_ble_eq_true rfl) dX11_table_19 rfl ?_
    intro r_7 N_8 q_9
    obtain ⟨hI_N_8, hG_N_8, hk_10, hX_N_8⟩ := q_9
    have hF_N_8 : Fr f_c_X11_table M N_8 := Fr.c hF_M hG_N_8 rfl
    refine kx_astore_n 23 F 2 (lo' := [some (vR G c0), some (vI a1), some (vR G r_7)]) dX11_table_22 rfl (by decide) rfl rfl rfl ?_
    refine kx_aload_n 24 F 2 dX11_table_23 rfl rfl rfl ?_
    refine kx_Vi 27 (ci := 0) F (As := []) (st := []) vd_X11_272 (c_X7_stands G l N_8 r_7 hI_N_8 hk_10) hk_10 rfl rfl rfl ⟨by decide, by decide⟩ rfl rfl (Nat.le_of_ble_eq_true rfl) dX11_table_24 rfl ?_
    intro r_11 N_12 q_13
    obtain ⟨rfl, q_13c⟩ := q_13
    have h_14 := Inv.g hI_N_8 hk_10 rfl 1 (a := 0) (b := 41) rfl rfl
    rcases q_13c with q_13c | q_13c
    · refine kx_if_eq 30 F 41 dX11_table_27 (by decide) rfl (by omega) (fun h_15 => (by exfalso; omega)) (fun h_15 => ?_)
      refine kx_aload_n 31 F 0 dX11_table_30 rfl rfl rfl ?_
      refine kx_aload_n 32 F 2 dX11_table_31 rfl rfl rfl ?_
      refine kx_geti 35 F fl_X11_275 hk_10 rfl rfl (j := 1) rfl dX11_table_32 (v := (N_8 r_7 1)) rfl rfl ?_
      refine kx_Vi 38 (ci := 0) F (As := [vI (N_8 r_7 1)]) (st := []) vd_X11_145 (c_X11_answer G l N_8 c0 (N_8 r_7 1) hI_N_8 hk_c0 (by omega)) hk_c0 rfl rfl rfl ⟨by decide, by decide⟩ rfl rfl (Nat.le_of_ble_eq_true rfl) dX11_table_35 rfl ?_
      intro r_16 N_17 q_18
      obtain ⟨hI_N_17, hG_N_17, q_18c⟩ := q_18
      have hF_N_17 : Fr f_c_X11_table M N_17 := Fr.c hF_N_8 hG_N_17 rfl
      have hX_N_17 : XX N_17 := XX.fr hX_N_8 hI_N_8 hG_N_17 rfl
      refine kx_goto 47 F dX11_table_38 (by decide) ?_
      exact kx_iret F hQ ⟨hI_N_17, hF_N_17, (by omega), hX_N_17⟩ dX11_table_47
    · refine kx_if_eq 30 F 41 dX11_table_27 (by decide) rfl (by omega) (fun h_19 => ?_) (fun h_19 => (by exfalso; omega))
      refine kx_aload_n 42 F 0 dX11_table_41 rfl rfl rfl ?_
      refine kx_bipush 44 F dX11_table_42 (by decide) rfl ?_
      refine kx_Vi 47 (ci := 0) F (As := [vI 7]) (st := []) vd_X11_110 (c_X11_refuse G l N_8 c0 7 hI_N_8 hk_c0 (by omega)) hk_c0 rfl rfl rfl ⟨by decide, by decide⟩ rfl rfl (Nat.le_of_ble_eq_true rfl) dX11_table_44 rfl ?_
      intro r_20 N_21 q_22
      obtain ⟨hI_N_21, hG_N_21, q_22c⟩ := q_22
      have hF_N_21 : Fr f_c_X11_table M N_21 := Fr.c hF_N_8 hG_N_21 rfl
      have hX_N_21 : XX N_21 := XX.fr hX_N_8 hI_N_8 hG_N_21 rfl
      subst q_22c
      exact kx_iret F hQ ⟨hI_N_21, hF_N_21, (by omega), hX_N_21⟩ dX11_table_47
  · refine kx_if_ne 11 F 17 dX11_table_8 (by decide) rfl (by omega) (fun h_23 => (by exfalso; omega)) (fun h_23 => ?_)
    refine kx_aload_n 12 F 0 dX11_table_11 rfl rfl rfl ?_
    refine kx_iconst 13 F dX11_table_12 rfl ?_
    refine kx_Vi 16 (ci := 0) F (As := [vI 1]) (st := []) vd_X11_110 (c_X11_refuse G l M c0 1 hI_M hk_c0 (by omega)) hk_c0 rfl rfl rfl ⟨by decide, by decide⟩ rfl rfl (Nat.le_of_ble_eq_true rfl) dX11_table_13 rfl ?_
    intro r_24 N_25 q_26
    obtain ⟨hI_N_25, hG_N_25, q_26c⟩ := q_26
    have hF_N_25 : Fr f_c_X11_table M N_25 := Fr.c hF_M hG_N_25 rfl
    have hX_N_25 : XX N_25 := XX.fr hX_M hI_M hG_N_25 rfl
    subst q_26c
    exact kx_iret F hQ ⟨hI_N_25, hF_N_25, (by omega), hX_N_25⟩ dX11_table_16
theorem dX11_summary_0 : decode cX11_summary 0 = .ok (.aload_n 0, 1) := by decide +kernel
theorem dX11_summary_1 : decode cX11_summary 1 = .ok (.aload_n 0, 1) := by decide +kernel
theorem dX11_summary_2 : decode cX11_summary 2 = .ok (.getfield 26, 3) := by decide +kernel
theorem dX11_summary_5 : decode cX11_summary 5 = .ok (.iload_n 1, 1) := by decide +kernel
theorem dX11_summary_6 : decode cX11_summary 6 = .ok (.invokevirtual 163, 3) := by decide +kernel
theorem dX11_summary_9 : decode cX11_summary 9 = .ok (.ifCond .eq 16, 3) := by decide +kernel
theorem dX11_summary_12 : decode cX11_summary 12 = .ok (.iload_n 3, 1) := by decide +kernel
theorem dX11_summary_13 : decode cX11_summary 13 = .ok (.iconst 0, 1) := by decide +kernel
theorem dX11_summary_14 : decode cX11_summary 14 = .ok (.iconst 2, 1) := by decide +kernel
theorem dX11_summary_15 : decode cX11_summary 15 = .ok (.invokestatic 87, 3) := by decide +kernel
theorem dX11_summary_18 : decode cX11_summary 18 = .ok (.ifCond .eq 7, 3) := by decide +kernel
theorem dX11_summary_21 : decode cX11_summary 21 = .ok (.iconst 1, 1) := by decide +kernel
theorem dX11_summary_22 : decode cX11_summary 22 = .ok (.goto 4, 3) := by decide +kernel
theorem dX11_summary_25 : decode cX11_summary 25 = .ok (.iconst 0, 1) := by decide +kernel
theorem dX11_summary_26 : decode cX11_summary 26 = .ok (.iload_n 1, 1) := by decide +kernel
theorem dX11_summary_27 : decode cX11_summary 27 = .ok (.iload_n 2, 1) := by decide +kernel
theorem dX11_summary_28 : decode cX11_summary 28 = .ok (.invokevirtual 278, 3) := by decide +kernel
theorem dX11_summary_31 : decode cX11_summary 31 = .ok (.istore 4, 2) := by decide +kernel
theorem dX11_summary_33 : decode cX11_summary 33 = .ok (.iload 4, 2) := by decide +kernel
theorem dX11_summary_35 : decode cX11_summary 35 = .ok (.ifCond .eq 10, 3) := by decide +kernel
theorem dX11_summary_38 : decode cX11_summary 38 = .ok (.aload_n 0, 1) := by decide +kernel
theorem dX11_summary_39 : decode cX11_summary 39 = .ok (.iload 4, 2) := by decide +kernel
theorem dX11_summary_41 : decode cX11_summary 41 = .ok (.invokevirtual 110, 3) := by decide +kernel
theorem dX11_summary_44 : decode cX11_summary 44 = .ok (.ireturn, 1) := by decide +kernel
theorem dX11_summary_45 : decode cX11_summary 45 = .ok (.aload_n 0, 1) := by decide +kernel
theorem dX11_summary_46 : decode cX11_summary 46 = .ok (.iload_n 1, 1) := by decide +kernel
theorem dX11_summary_47 : decode cX11_summary 47 = .ok (.invokevirtual 268, 3) := by decide +kernel
theorem dX11_summary_50 : decode cX11_summary 50 = .ok (.astore 5, 2) := by decide +kernel
theorem dX11_summary_52 : decode cX11_summary 52 = .ok (.iload_n 3, 1) := by decide +kernel
theorem dX11_summary_53 : decode cX11_summary 53 = .ok (.ifCond .ne 15, 3) := by decide +kernel
theorem dX11_summary_56 : decode cX11_summary 56 = .ok (.aload_n 0, 1) := by decide +kernel
theorem dX11_summary_57 : decode cX11_summary 57 = .ok (.aload 5, 2) := by decide +kernel
theorem dX11_summary_59 : decode cX11_summary 59 = .ok (.getfield 281, 3) := by decide +kernel
theorem dX11_summary_62 : decode cX11_summary 62 = .ok (.iload_n 2, 1) := by decide +kernel
theorem dX11_summary_63 : decode cX11_summary 63 = .ok (.iaload, 1) := by decide +kernel
theorem dX11_summary_64 : decode cX11_summary 64 = .ok (.invokevirtual 145, 3) := by decide +kernel
theorem dX11_summary_67 : decode cX11_summary 67 = .ok (.ireturn, 1) := by decide +kernel
theorem dX11_summary_68 : decode cX11_summary 68 = .ok (.iload_n 3, 1) := by decide +kernel
theorem dX11_summary_69 : decode cX11_summary 69 = .ok (.iconst 1, 1) := by decide +kernel
theorem dX11_summary_70 : decode cX11_summary 70 = .ok (.if_icmp .ne 15, 3) := by decide +kernel
theorem dX11_summary_73 : decode cX11_summary 73 = .ok (.aload_n 0, 1) := by decide +kernel
theorem dX11_summary_74 : decode cX11_summary 74 = .ok (.aload 5, 2) := by decide +kernel
theorem dX11_summary_76 : decode cX11_summary 76 = .ok (.getfield 283, 3) := by decide +kernel
theorem dX11_summary_79 : decode cX11_summary 79 = .ok (.iload_n 2, 1) := by decide +kernel
theorem dX11_summary_80 : decode cX11_summary 80 = .ok (.iaload, 1) := by decide +kernel
theorem dX11_summary_81 : decode cX11_summary 81 = .ok (.invokevirtual 145, 3) := by decide +kernel
theorem dX11_summary_84 : decode cX11_summary 84 = .ok (.ireturn, 1) := by decide +kernel
theorem dX11_summary_85 : decode cX11_summary 85 = .ok (.aload_n 0, 1) := by decide +kernel
theorem dX11_summary_86 : decode cX11_summary 86 = .ok (.aload 5, 2) := by decide +kernel
theorem dX11_summary_88 : decode cX11_summary 88 = .ok (.getfield 281, 3) := by decide +kernel
theorem dX11_summary_91 : decode cX11_summary 91 = .ok (.iload_n 2, 1) := by decide +kernel
theorem dX11_summary_92 : decode cX11_summary 92 = .ok (.iaload, 1) := by decide +kernel
theorem dX11_summary_93 : decode cX11_summary 93 = .ok (.aload_n 0, 1) := by decide +kernel
theorem dX11_summary_94 : decode cX11_summary 94 = .ok (.getfield 26, 3) := by decide +kernel
theorem dX11_summary_97 : decode cX11_summary 97 = .ok (.iload_n 1, 1) := by decide +kernel
theorem dX11_summary_98 : decode cX11_summary 98 = .ok (.invokevirtual 164, 3) := by decide +kernel
theorem dX11_summary_101 : decode cX11_summary 101 = .ok (.getfield 179, 3) := by decide +kernel
theorem dX11_summary_104 : decode cX11_summary 104 = .ok (.iand, 1) := by decide +kernel
theorem dX11_summary_105 : decode cX11_summary 105 = .ok (.ifCond .eq 7, 3) := by decide +kernel
theorem dX11_summary_108 : decode cX11_summary 108 = .ok (.iconst 1, 1) := by decide +kernel
theorem dX11_summary_109 : decode cX11_summary 109 = .ok (.goto 4, 3) := by decide +kernel
theorem dX11_summary_112 : decode cX11_summary 112 = .ok (.iconst 0, 1) := by decide +kernel
theorem dX11_summary_113 : decode cX11_summary 113 = .ok (.invokevirtual 145, 3) := by decide +kernel
theorem dX11_summary_116 : decode cX11_summary 116 = .ok (.ireturn, 1) := by decide +kernel
abbrev f_c_X11_summary : List (Nat × Int) := [(21, 0), (21, 1), (22, -1), (23, -1), (24, -1), (25, -1), (62, 0)]
set_option maxHeartbeats 4000000 in
set_option maxRecDepth 100000 in
theorem c_X11_summary (G : KG) (l : Launch) (M : Mem) (c0 : Int) (a1 : Int) (a2 : Int) (a3 : Int) (hI_M : Inv false M) (hk_c0 : kd c0 = 62) (hpre : -2147483648 ≤ a1 ∧ a1 ≤ 2147483647 ∧ -2147483648 ≤ a2 ∧ a2 ≤ 2147483647 ∧ -2147483648 ≤ a3 ∧ a3 ≤ 2147483647) (hX_M : XX M) : KC false G l yX11_summary cX11_summary 6 (some .int) (6, 143) [vR G c0, vI a1, vI a2, vI a3] M (fun A => kQi false G A (fun (r : Int) (N : Mem) => Inv false N ∧ Fr f_c_X11_summary M N ∧ (r ≥ -1 ∧ r ≤ 511) ∧ XX N)) := by
  refine kx_met (lo := [some (vR G c0), some (vI a1), some (vI a2), some (vI a3), none, none]) (by decide) (Nat.le_of_ble_eq_true rfl) rfl ?_
  intro X F hQ
  have hF_M : Fr f_c_X11_summary M M := Fr.rf _ _
  refine kx_aload_n 1 F 0 dX11_summary_0 rfl rfl rfl ?_
  refine kx_aload_n 2 F 0 dX11_summary_1 rfl rfl rfl ?_
  refine kx_getr 5 F fl_X11_26 hk_c0 rfl rfl (j := 5) rfl dX11_summary_2 (v := (M c0 5)) rfl rfl ?_
  have hk_1 : kd (M c0 5) = 12 := Inv.r hI_M hk_c0 rfl 5 rfl rfl
  refine kx_iload_n 6 F 1 dX11_summary_5 rfl rfl rfl ?_
  refine kx_Vi 9 (ci := 0) F (As := [vI a1]) (st := [vR G c0]) vd_X11_163 (c_X5_has G l M (M c0 5) a1 hI_M hk_1 (by omega)) hk_1 rfl rfl rfl ⟨by decide, by decide⟩ rfl rfl (Nat.le_of_ble_eq_true rfl) dX11_summary_6 rfl ?_
  intro r_2 N_3 q_4
  obtain ⟨rfl, q_4c⟩ := q_4
  have h_5 := Inv.g hI_M hk_1 rfl 3 (a := 0) (b := 2) rfl rfl
  rcases q_4c with q_4c | q_4c
  · refine kx_if_eq 12 F 25 dX11_summary_9 (by decide) rfl (by omega) (fun h_6 => (by exfalso; omega)) (fun h_6 => ?_)
    refine kx_iload_n 13 F 3 dX11_summary_12 rfl rfl rfl ?_
    refine kx_iconst 14 F dX11_summary_13 rfl ?_
    refine kx_iconst 15 F dX11_summary_14 rfl ?_
    refine kx_Si 18 F (As := [vI a3, vI 0, vI 2]) (st := [vR G c0]) sd_X11_87 (c_X11_within G l M a3 0 2 hI_M (by omega)) ⟨by decide, by decide⟩ rfl rfl (Nat.le_of_ble_eq_true rfl) dX11_summary_15 rfl ?_
    intro r_7 N_8 q_9
    obtain ⟨rfl, q_9c⟩ := q_9
    rcases q_9c with q_9c | q_9c
    · refine kx_if_eq 21 F 25 dX11_summary_18 (by decide) rfl (by omega) (fun h_10 => (by exfalso; omega)) (fun h_10 => ?_)
      refine kx_iconst 22 F dX11_summary_21 rfl ?_
      refine kx_goto 26 F dX11_summary_22 (by decide) ?_
      refine kx_iload_n 27 F 1 dX11_summary_26 rfl rfl rfl ?_
      refine kx_iload_n 28 F 2 dX11_summary_27 rfl rfl rfl ?_
      refine kx_Vi 31 (ci := 0) F (As := [vI 1, vI a1, vI a2]) (st := []) vd_X11_278 (c_X11_summaryRefusal G l M c0 1 a1 a2 hI_M hk_c0 (by omega) hX_M) hk_c0 rfl rfl rfl ⟨by decide, by decide⟩ rfl rfl (Nat.le_of_ble_eq_true rfl) dX11_summary_28 rfl ?_
      intro r_11 N_12 q_13
      obtain ⟨hI_N_12, hG_N_12, q_13c, hX_N_12⟩ := q_13
      have hF_N_12 : Fr f_c_X11_summary M N_12 := Fr.c hF_M hG_N_12 rfl
      rcases q_13c with q_13c | q_13c
      · refine kx_istore 33 F 4 (lo' := [some (vR G c0), some (vI a1), some (vI a2), some (vI a3), some (vI r_11), none]) dX11_summary_31 (by decide) rfl rfl rfl ?_
        refine kx_iload 35 F 4 dX11_summary_33 rfl rfl ?_
        refine kx_if_eq 38 F 45 dX11_summary_35 (by decide) rfl (by omega) (fun h_14 => ?_) (fun h_14 => (by exfalso; omega))
        refine kx_aload_n 46 F 0 dX11_summary_45 rfl rfl rfl ?_
        refine kx_iload_n 47 F 1 dX11_summary_46 rfl rfl rfl ?_
        refine kx_Vr 50 (ci := 0) F (As := [vI a1]) (st := []) vd_X11_268 (c_X11_tableOf G l N_12 c0 a1 hI_N_12 hk_c0 (by omega) hX_N_12) hk_c0 rfl rfl rfl ⟨by decide, by decide⟩ rfl rfl (Nat.le_of_ble_eq_true rfl) dX11_summary_47 rfl ?_
        intro r_15 N_16 q_17
        obtain ⟨hI_N_16, hG_N_16, hk_18, hX_N_16⟩ := q_17
        have hF_N_16 : Fr f_c_X11_summary M N_16 := Fr.c hF_N_12 hG_N_16 rfl
        refine kx_astore 52 F 5 (lo' := [some (vR G c0), some (vI a1), some (vI a2), some (vI a3), some (vI r_11), some (vR G r_15)]) dX11_summary_50 (by decide) rfl rfl rfl ?_
        refine kx_iload_n 53 F 3 dX11_summary_52 rfl rfl rfl ?_
        refine kx_if_ne 56 F 68 dX11_summary_53 (by decide) rfl (by omega) (fun h_19 => ?_) (fun h_19 => ?_)
        · refine kx_iload_n 69 F 3 dX11_summary_68 rfl rfl rfl ?_
          refine kx_iconst 70 F dX11_summary_69 rfl ?_
          refine kx_icmp_ne 73 F 85 dX11_summary_70 (by decide) rfl (by omega) (by decide) (fun h_20 => ?_) (fun h_20 => ?_)
          · refine kx_aload_n 86 F 0 dX11_summary_85 rfl rfl rfl ?_
            refine kx_aload 88 F 5 dX11_summary_86 rfl rfl ?_
            refine kx_getr 91 F fl_X11_281 hk_18 rfl rfl (j := 2) rfl dX11_summary_88 (v := (M r_15 2)) (by rw [Fr.e hG_N_16 hk_18 _ rfl, Fr.e hG_N_12 hk_18 _ rfl]) rfl ?_
            have hk_21 : kd (M r_15 2) = 22 := Inv.r hI_M hk_18 rfl 2 rfl rfl
            refine kx_iload_n 92 F 2 dX11_summary_91 rfl rfl rfl ?_
            refine kx_iald 93 F hk_21 rfl rfl (by omega) (by decide) dX11_summary_92 (v := (N_16 (M r_15 2) a2)) rfl rfl ?_
            have h_22 := Inv.g hI_N_16 hk_21 rfl a2 (a := 0) (b := 7) rfl rfl
            refine kx_aload_n 94 F 0 dX11_summary_93 rfl rfl rfl ?_
            refine kx_getr 97 F fl_X11_26 hk_c0 rfl rfl (j := 5) rfl dX11_summary_94 (v := (M c0 5)) (by rw [Fr.e hG_N_16 hk_c0 _ rfl, Fr.e hG_N_12 hk_c0 _ rfl]) rfl ?_
            refine kx_iload_n 98 F 1 dX11_summary_97 rfl rfl rfl ?_
            refine kx_Vr 101 (ci := 0) F (As := [vI a1]) (st := [vI (N_16 (M r_15 2) a2), vR G c0]) vd_X11_164 (c_X5_pick G l N_16 (M c0 5) a1 hI_N_16 hk_1 (by omega)) hk_1 rfl rfl rfl ⟨by decide, by decide⟩ rfl rfl (Nat.le_of_ble_eq_true rfl) dX11_summary_98 rfl ?_
            intro r_23 N_24 q_25
            obtain ⟨rfl, hk_26⟩ := q_25
            refine kx_geti 104 F fl_X11_179 hk_26 rfl rfl (j := 3) rfl dX11_summary_101 (v := (M r_23 3)) (by rw [Fr.e hG_N_16 hk_26 _ rfl, Fr.e hG_N_12 hk_26 _ rfl]) rfl ?_
            have h_27 := Inv.g hI_M hk_26 rfl 3 (a := 0) (b := 7) rfl rfl
            refine kx_iand 105 F (v := (zand (N_16 (M r_15 2) a2) (M r_23 3))) dX11_summary_104 rfl rfl ?_
            have h_28 := zand_r (a := (N_16 (M r_15 2) a2)) (b := (M r_23 3)) (by omega)
            refine kx_if_eq 108 F 112 dX11_summary_105 (by decide) rfl (by omega) (fun h_29 => ?_) (fun h_29 => ?_)
            · refine kx_iconst 113 F dX11_summary_112 rfl ?_
              refine kx_Vi 116 (ci := 0) F (As := [vI 0]) (st := []) vd_X11_145 (c_X11_answer G l N_16 c0 0 hI_N_16 hk_c0 (by omega)) hk_c0 rfl rfl rfl ⟨by decide, by decide⟩ rfl rfl (Nat.le_of_ble_eq_true rfl) dX11_summary_113 rfl ?_
              intro r_30 N_31 q_32
              obtain ⟨hI_N_31, hG_N_31, q_32c⟩ := q_32
              have hF_N_31 : Fr f_c_X11_summary M N_31 := Fr.c hF_N_16 hG_N_31 rfl
              have hX_N_31 : XX N_31 := XX.fr hX_N_16 hI_N_16 hG_N_31 rfl
              exact kx_iret F hQ ⟨hI_N_31, hF_N_31, (by omega), hX_N_31⟩ dX11_summary_116
            · refine kx_iconst 109 F dX11_summary_108 rfl ?_
              refine kx_goto 113 F dX11_summary_109 (by decide) ?_
              refine kx_Vi 116 (ci := 0) F (As := [vI 1]) (st := []) vd_X11_145 (c_X11_answer G l N_16 c0 1 hI_N_16 hk_c0 (by omega)) hk_c0 rfl rfl rfl ⟨by decide, by decide⟩ rfl rfl (Nat.le_of_ble_eq_true rfl) dX11_summary_113 rfl ?_
              intro r_33 N_34 q_35
              obtain ⟨hI_N_34, hG_N_34, q_35c⟩ := q_35
              have hF_N_34 : Fr f_c_X11_summary M N_34 := Fr.c hF_N_16 hG_N_34 rfl
              have hX_N_34 : XX N_34 := XX.fr hX_N_16 hI_N_16 hG_N_34 rfl
              exact kx_iret F hQ ⟨hI_N_34, hF_N_34, (by omega), hX_N_34⟩ dX11_summary_116
          · refine kx_aload_n 74 F 0 dX11_summary_73 rfl rfl rfl ?_
            refine kx_aload 76 F 5 dX11_summary_74 rfl rfl ?_
            refine kx_getr 79 F fl_X11_283 hk_18 rfl rfl (j := 3) rfl dX11_summary_76 (v := (M r_15 3)) (by rw [Fr.e hG_N_16 hk_18 _ rfl, Fr.e hG_N_12 hk_18 _ rfl]) rfl ?_
            have hk_36 : kd (M r_15 3) = 23 := Inv.r hI_M hk_18 rfl 3 rfl rfl
            refine kx_iload_n 80 F 2 dX11_summary_79 rfl rfl rfl ?_
            refine kx_iald 81 F hk_36 rfl rfl (by omega) (by decide) dX11_summary_80 (v := (N_16 (M r_15 3) a2)) rfl rfl ?_
            have h_37 := Inv.g hI_N_16 hk_36 rfl a2 (a := 0) (b := 511) rfl rfl
            refine kx_Vi 84 (ci := 0) F (As := [vI (N_16 (M r_15 3) a2)]) (st := []) vd_X11_145 (c_X11_answer G l N_16 c0 (N_16 (M r_15 3) a2) hI_N_16 hk_c0 (by omega)) hk_c0 rfl rfl rfl ⟨by decide, by decide⟩ rfl rfl (Nat.le_of_ble_eq_true rfl) dX11_summary_81 rfl ?_
            intro r_38 N_39 q_40
            obtain ⟨hI_N_39, hG_N_39, q_40c⟩ := q_40
            have hF_N_39 : Fr f_c_X11_summary M N_39 := Fr.c hF_N_16 hG_N_39 rfl
            have hX_N_39 : XX N_39 := XX.fr hX_N_16 hI_N_16 hG_N_39 rfl
            exact kx_iret F hQ ⟨hI_N_39, hF_N_39, (by omega), hX_N_39⟩ dX11_summary_84
        · refine kx_aload_n 57 F 0 dX11_summary_56 rfl rfl rfl ?_
          refine kx_aload 59 F 5 dX11_summary_57 rfl rfl ?_
          refine kx_getr 62 F fl_X11_281 hk_18 rfl rfl (j := 2) rfl dX11_summary_59 (v := (M r_15 2)) (by rw [Fr.e hG_N_16 hk_18 _ rfl, Fr.e hG_N_12 hk_18 _ rfl]) rfl ?_
          have hk_41 : kd (M r_15 2) = 22 := Inv.r hI_M hk_18 rfl 2 rfl rfl
          refine kx_iload_n 63 F 2 dX11_summary_62 rfl rfl rfl ?_
          refine kx_iald 64 F hk_41 rfl rfl (by omega) (by decide) dX11_summary_63 (v := (N_16 (M r_15 2) a2)) rfl rfl ?_
          have h_42 := Inv.g hI_N_16 hk_41 rfl a2 (a := 0) (b := 7) rfl rfl
          refine kx_Vi 67 (ci := 0) F (As := [vI (N_16 (M r_15 2) a2)]) (st := []) vd_X11_145 (c_X11_answer G l N_16 c0 (N_16 (M r_15 2) a2) hI_N_16 hk_c0 (by omega)) hk_c0 rfl rfl rfl ⟨by decide, by decide⟩ rfl rfl (Nat.le_of_ble_eq_true rfl) dX11_summary_64 rfl ?_
          intro r_43 N_44 q_45
          obtain ⟨hI_N_44, hG_N_44, q_45c⟩ := q_45
          have hF_N_44 : Fr f_c_X11_summary M N_44 := Fr.c hF_N_16 hG_N_44 rfl
          have hX_N_44 : XX N_44 := XX.fr hX_N_16 hI_N_16 hG_N_44 rfl
          exact kx_iret F hQ ⟨hI_N_44, hF_N_44, (by omega), hX_N_44⟩ dX11_summary_67
      · refine kx_istore 33 F 4 (lo' := [some (vR G c0), some (vI a1), some (vI a2), some (vI a3), some (vI r_11), none]) dX11_summary_31 (by decide) rfl rfl rfl ?_
        refine kx_iload 35 F 4 dX11_summary_33 rfl rfl ?_
        refine kx_if_eq 38 F 45 dX11_summary_35 (by decide) rfl (by omega) (fun h_46 => (by exfalso; omega)) (fun h_46 => ?_)
        refine kx_aload_n 39 F 0 dX11_summary_38 rfl rfl rfl ?_
        refine kx_iload 41 F 4 dX11_summary_39 rfl rfl ?_
        refine kx_Vi 44 (ci := 0) F (As := [vI r_11]) (st := []) vd_X11_110 (c_X11_refuse G l N_12 c0 r_11 hI_N_12 hk_c0 (by omega)) hk_c0 rfl rfl rfl ⟨by decide, by decide⟩ rfl rfl (Nat.le_of_ble_eq_true rfl) dX11_summary_41 rfl ?_
        intro r_47 N_48 q_49
        obtain ⟨hI_N_48, hG_N_48, q_49c⟩ := q_49
        have hF_N_48 : Fr f_c_X11_summary M N_48 := Fr.c hF_N_12 hG_N_48 rfl
        have hX_N_48 : XX N_48 := XX.fr hX_N_12 hI_N_12 hG_N_48 rfl
        subst q_49c
        exact kx_iret F hQ ⟨hI_N_48, hF_N_48, (by omega), hX_N_48⟩ dX11_summary_44
    · refine kx_if_eq 21 F 25 dX11_summary_18 (by decide) rfl (by omega) (fun h_50 => ?_) (fun h_50 => (by exfalso; omega))
      refine kx_iconst 26 F dX11_summary_25 rfl ?_
      refine kx_iload_n 27 F 1 dX11_summary_26 rfl rfl rfl ?_
      refine kx_iload_n 28 F 2 dX11_summary_27 rfl rfl rfl ?_
      refine kx_Vi 31 (ci := 0) F (As := [vI 0, vI a1, vI a2]) (st := []) vd_X11_278 (c_X11_summaryRefusal G l M c0 0 a1 a2 hI_M hk_c0 (by omega) hX_M) hk_c0 rfl rfl rfl ⟨by decide, by decide⟩ rfl rfl (Nat.le_of_ble_eq_true rfl) dX11_summary_28 rfl ?_
      intro r_51 N_52 q_53
      obtain ⟨hI_N_52, hG_N_52, q_53c, hX_N_52⟩ := q_53
      have hF_N_52 : Fr f_c_X11_summary M N_52 := Fr.c hF_M hG_N_52 rfl
      rcases q_53c with q_53c | q_53c
      · exfalso; omega
      · refine kx_istore 33 F 4 (lo' := [some (vR G c0), some (vI a1), some (vI a2), some (vI a3), some (vI r_51), none]) dX11_summary_31 (by decide) rfl rfl rfl ?_
        refine kx_iload 35 F 4 dX11_summary_33 rfl rfl ?_
        refine kx_if_eq 38 F 45 dX11_summary_35 (by decide) rfl (by omega) (fun h_54 => (by exfalso; omega)) (fun h_54 => ?_)
        refine kx_aload_n 39 F 0 dX11_summary_38 rfl rfl rfl ?_
        refine kx_iload 41 F 4 dX11_summary_39 rfl rfl ?_
        refine kx_Vi 44 (ci := 0) F (As := [vI r_51]) (st := []) vd_X11_110 (c_X11_refuse G l N_52 c0 r_51 hI_N_52 hk_c0 (by omega)) hk_c0 rfl rfl rfl ⟨by decide, by decide⟩ rfl rfl (Nat.le_of_ble_eq_true rfl) dX11_summary_41 rfl ?_
        intro r_55 N_56 q_57
        obtain ⟨hI_N_56, hG_N_56, q_57c⟩ := q_57
        have hF_N_56 : Fr f_c_X11_summary M N_56 := Fr.c hF_N_52 hG_N_56 rfl
        have hX_N_56 : XX N_56 := XX.fr hX_N_52 hI_N_52 hG_N_56 rfl
        subst q_57c
        exact kx_iret F hQ ⟨hI_N_56, hF_N_56, (by omega), hX_N_56⟩ dX11_summary_44
  · refine kx_if_eq 12 F 25 dX11_summary_9 (by decide) rfl (by omega) (fun h_58 => ?_) (fun h_58 => (by exfalso; omega))
    refine kx_iconst 26 F dX11_summary_25 rfl ?_
    refine kx_iload_n 27 F 1 dX11_summary_26 rfl rfl rfl ?_
    refine kx_iload_n 28 F 2 dX11_summary_27 rfl rfl rfl ?_
    refine kx_Vi 31 (ci := 0) F (As := [vI 0, vI a1, vI a2]) (st := []) vd_X11_278 (c_X11_summaryRefusal G l M c0 0 a1 a2 hI_M hk_c0 (by omega) hX_M) hk_c0 rfl rfl rfl ⟨by decide, by decide⟩ rfl rfl (Nat.le_of_ble_eq_true rfl) dX11_summary_28 rfl ?_
    intro r_59 N_60 q_61
    obtain ⟨hI_N_60, hG_N_60, q_61c, hX_N_60⟩ := q_61
    have hF_N_60 : Fr f_c_X11_summary M N_60 := Fr.c hF_M hG_N_60 rfl
    rcases q_61c with q_61c | q_61c
    · exfalso; omega
    · refine kx_istore 33 F 4 (lo' := [some (vR G c0), some (vI a1), some (vI a2), some (vI a3), some (vI r_59), none]) dX11_summary_31 (by decide) rfl rfl rfl ?_
      refine kx_iload 35 F 4 dX11_summary_33 rfl rfl ?_
      refine kx_if_eq 38 F 45 dX11_summary_35 (by decide) rfl (by omega) (fun h_62 => (by exfalso; omega)) (fun h_62 => ?_)
      refine kx_aload_n 39 F 0 dX11_summary_38 rfl rfl rfl ?_
      refine kx_iload 41 F 4 dX11_summary_39 rfl rfl ?_
      refine kx_Vi 44 (ci := 0) F (As := [vI r_59]) (st := []) vd_X11_110 (c_X11_refuse G l N_60 c0 r_59 hI_N_60 hk_c0 (by omega)) hk_c0 rfl rfl rfl ⟨by decide, by decide⟩ rfl rfl (Nat.le_of_ble_eq_true rfl) dX11_summary_41 rfl ?_
      intro r_63 N_64 q_65
      obtain ⟨hI_N_64, hG_N_64, q_65c⟩ := q_65
      have hF_N_64 : Fr f_c_X11_summary M N_64 := Fr.c hF_N_60 hG_N_64 rfl
      have hX_N_64 : XX N_64 := XX.fr hX_N_60 hI_N_60 hG_N_64 rfl
      subst q_65c
      exact kx_iret F hQ ⟨hI_N_64, hF_N_64, (by omega), hX_N_64⟩ dX11_summary_44
theorem dX11_next_0 : decode cX11_next 0 = .ok (.aload_n 0, 1) := by decide +kernel
theorem dX11_next_1 : decode cX11_next 1 = .ok (.aload_n 0, 1) := by decide +kernel
theorem dX11_next_2 : decode cX11_next 2 = .ok (.getfield 26, 3) := by decide +kernel
theorem dX11_next_5 : decode cX11_next 5 = .ok (.iload_n 1, 1) := by decide +kernel
theorem dX11_next_6 : decode cX11_next 6 = .ok (.invokevirtual 163, 3) := by decide +kernel
theorem dX11_next_9 : decode cX11_next 9 = .ok (.ifCond .eq 18, 3) := by decide +kernel
theorem dX11_next_12 : decode cX11_next 12 = .ok (.aload_n 0, 1) := by decide +kernel
theorem dX11_next_13 : decode cX11_next 13 = .ok (.getfield 26, 3) := by decide +kernel
theorem dX11_next_16 : decode cX11_next 16 = .ok (.iload_n 3, 1) := by decide +kernel
theorem dX11_next_17 : decode cX11_next 17 = .ok (.invokevirtual 286, 3) := by decide +kernel
theorem dX11_next_20 : decode cX11_next 20 = .ok (.ifCond .eq 7, 3) := by decide +kernel
theorem dX11_next_23 : decode cX11_next 23 = .ok (.iconst 1, 1) := by decide +kernel
theorem dX11_next_24 : decode cX11_next 24 = .ok (.goto 4, 3) := by decide +kernel
theorem dX11_next_27 : decode cX11_next 27 = .ok (.iconst 0, 1) := by decide +kernel
theorem dX11_next_28 : decode cX11_next 28 = .ok (.iload_n 1, 1) := by decide +kernel
theorem dX11_next_29 : decode cX11_next 29 = .ok (.iload_n 2, 1) := by decide +kernel
theorem dX11_next_30 : decode cX11_next 30 = .ok (.invokevirtual 278, 3) := by decide +kernel
theorem dX11_next_33 : decode cX11_next 33 = .ok (.istore 4, 2) := by decide +kernel
theorem dX11_next_35 : decode cX11_next 35 = .ok (.iload 4, 2) := by decide +kernel
theorem dX11_next_37 : decode cX11_next 37 = .ok (.ifCond .eq 10, 3) := by decide +kernel
theorem dX11_next_40 : decode cX11_next 40 = .ok (.aload_n 0, 1) := by decide +kernel
theorem dX11_next_41 : decode cX11_next 41 = .ok (.iload 4, 2) := by decide +kernel
theorem dX11_next_43 : decode cX11_next 43 = .ok (.invokevirtual 110, 3) := by decide +kernel
theorem dX11_next_46 : decode cX11_next 46 = .ok (.ireturn, 1) := by decide +kernel
theorem dX11_next_47 : decode cX11_next 47 = .ok (.aload_n 0, 1) := by decide +kernel
theorem dX11_next_48 : decode cX11_next 48 = .ok (.aload_n 0, 1) := by decide +kernel
theorem dX11_next_49 : decode cX11_next 49 = .ok (.iload_n 1, 1) := by decide +kernel
theorem dX11_next_50 : decode cX11_next 50 = .ok (.invokevirtual 268, 3) := by decide +kernel
theorem dX11_next_53 : decode cX11_next 53 = .ok (.aload_n 0, 1) := by decide +kernel
theorem dX11_next_54 : decode cX11_next 54 = .ok (.getfield 26, 3) := by decide +kernel
theorem dX11_next_57 : decode cX11_next 57 = .ok (.aload_n 0, 1) := by decide +kernel
theorem dX11_next_58 : decode cX11_next 58 = .ok (.getfield 26, 3) := by decide +kernel
theorem dX11_next_61 : decode cX11_next 61 = .ok (.iload_n 1, 1) := by decide +kernel
theorem dX11_next_62 : decode cX11_next 62 = .ok (.invokevirtual 164, 3) := by decide +kernel
theorem dX11_next_65 : decode cX11_next 65 = .ok (.iload_n 2, 1) := by decide +kernel
theorem dX11_next_66 : decode cX11_next 66 = .ok (.iload_n 3, 1) := by decide +kernel
theorem dX11_next_67 : decode cX11_next 67 = .ok (.invokevirtual 289, 3) := by decide +kernel
theorem dX11_next_70 : decode cX11_next 70 = .ok (.invokevirtual 145, 3) := by decide +kernel
theorem dX11_next_73 : decode cX11_next 73 = .ok (.ireturn, 1) := by decide +kernel
abbrev f_c_X11_next : List (Nat × Int) := [(21, 0), (21, 1), (22, -1), (23, -1), (24, -1), (25, -1), (62, 0)]
set_option maxHeartbeats 4000000 in
set_option maxRecDepth 100000 in
theorem c_X11_next (G : KG) (l : Launch) (M : Mem) (c0 : Int) (a1 : Int) (a2 : Int) (a3 : Int) (hI_M : Inv false M) (hk_c0 : kd c0 = 62) (hpre : -2147483648 ≤ a1 ∧ a1 ≤ 2147483647 ∧ -2147483648 ≤ a2 ∧ a2 ≤ 2147483647 ∧ -2147483648 ≤ a3 ∧ a3 ≤ 2147483647) (hX_M : XX M) : KC false G l yX11_next cX11_next 5 (some .int) (6, 143) [vR G c0, vI a1, vI a2, vI a3] M (fun A => kQi false G A (fun (r : Int) (N : Mem) => Inv false N ∧ Fr f_c_X11_next M N ∧ (r ≥ -1 ∧ r ≤ 39) ∧ XX N)) := by
  refine kx_met (lo := [some (vR G c0), some (vI a1), some (vI a2), some (vI a3), none]) (by decide) (Nat.le_of_ble_eq_true rfl) rfl ?_
  intro X F hQ
  have hF_M : Fr f_c_X11_next M M := Fr.rf _ _
  refine kx_aload_n 1 F 0 dX11_next_0 rfl rfl rfl ?_
  refine kx_aload_n 2 F 0 dX11_next_1 rfl rfl rfl ?_
  refine kx_getr 5 F fl_X11_26 hk_c0 rfl rfl (j := 5) rfl dX11_next_2 (v := (M c0 5)) rfl rfl ?_
  have hk_1 : kd (M c0 5) = 12 := Inv.r hI_M hk_c0 rfl 5 rfl rfl
  refine kx_iload_n 6 F 1 dX11_next_5 rfl rfl rfl ?_
  refine kx_Vi 9 (ci := 0) F (As := [vI a1]) (st := [vR G c0]) vd_X11_163 (c_X5_has G l M (M c0 5) a1 hI_M hk_1 (by omega)) hk_1 rfl rfl rfl ⟨by decide, by decide⟩ rfl rfl (Nat.le_of_ble_eq_true rfl) dX11_next_6 rfl ?_
  intro r_2 N_3 q_4
  obtain ⟨rfl, q_4c⟩ := q_4
  have h_5 := Inv.g hI_M hk_1 rfl 3 (a := 0) (b := 2) rfl rfl
  rcases q_4c with q_4c | q_4c
  · refine kx_if_eq 12 F 27 dX11_next_9 (by decide) rfl (by omega) (fun h_6 => (by exfalso; omega)) (fun h_6 => ?_)
    refine kx_aload_n 13 F 0 dX11_next_12 rfl rfl rfl ?_
    refine kx_getr 16 F fl_X11_26 hk_c0 rfl rfl (j := 5) rfl dX11_next_13 (v := (M c0 5)) rfl rfl ?_
    refine kx_iload_n 17 F 3 dX11_next_16 rfl rfl rfl ?_
    refine kx_Vi 20 (ci := 0) F (As := [vI a3]) (st := [vR G c0]) vd_X11_286 (c_X5_hasLetter G l M (M c0 5) a3 hI_M hk_1 (by omega)) hk_1 rfl rfl rfl ⟨by decide, by decide⟩ rfl rfl (Nat.le_of_ble_eq_true rfl) dX11_next_17 rfl ?_
    intro r_7 N_8 q_9
    obtain ⟨rfl, q_9c⟩ := q_9
    have h_10 := Inv.g hI_M hk_1 rfl 2 (a := 0) (b := 6) rfl rfl
    rcases q_9c with q_9c | q_9c
    · refine kx_if_eq 23 F 27 dX11_next_20 (by decide) rfl (by omega) (fun h_11 => (by exfalso; omega)) (fun h_11 => ?_)
      refine kx_iconst 24 F dX11_next_23 rfl ?_
      refine kx_goto 28 F dX11_next_24 (by decide) ?_
      refine kx_iload_n 29 F 1 dX11_next_28 rfl rfl rfl ?_
      refine kx_iload_n 30 F 2 dX11_next_29 rfl rfl rfl ?_
      refine kx_Vi 33 (ci := 0) F (As := [vI 1, vI a1, vI a2]) (st := []) vd_X11_278 (c_X11_summaryRefusal G l M c0 1 a1 a2 hI_M hk_c0 (by omega) hX_M) hk_c0 rfl rfl rfl ⟨by decide, by decide⟩ rfl rfl (Nat.le_of_ble_eq_true rfl) dX11_next_30 rfl ?_
      intro r_12 N_13 q_14
      obtain ⟨hI_N_13, hG_N_13, q_14c, hX_N_13⟩ := q_14
      have hF_N_13 : Fr f_c_X11_next M N_13 := Fr.c hF_M hG_N_13 rfl
      rcases q_14c with q_14c | q_14c
      · refine kx_istore 35 F 4 (lo' := [some (vR G c0), some (vI a1), some (vI a2), some (vI a3), some (vI r_12)]) dX11_next_33 (by decide) rfl rfl rfl ?_
        refine kx_iload 37 F 4 dX11_next_35 rfl rfl ?_
        refine kx_if_eq 40 F 47 dX11_next_37 (by decide) rfl (by omega) (fun h_15 => ?_) (fun h_15 => (by exfalso; omega))
        refine kx_aload_n 48 F 0 dX11_next_47 rfl rfl rfl ?_
        refine kx_aload_n 49 F 0 dX11_next_48 rfl rfl rfl ?_
        refine kx_iload_n 50 F 1 dX11_next_49 rfl rfl rfl ?_
        refine kx_Vr 53 (ci := 0) F (As := [vI a1]) (st := [vR G c0]) vd_X11_268 (c_X11_tableOf G l N_13 c0 a1 hI_N_13 hk_c0 (by omega) hX_N_13) hk_c0 rfl rfl rfl ⟨by decide, by decide⟩ rfl rfl (Nat.le_of_ble_eq_true rfl) dX11_next_50 rfl ?_
        intro r_16 N_17 q_18
        obtain ⟨hI_N_17, hG_N_17, hk_19, hX_N_17⟩ := q_18
        have hF_N_17 : Fr f_c_X11_next M N_17 := Fr.c hF_N_13 hG_N_17 rfl
        refine kx_aload_n 54 F 0 dX11_next_53 rfl rfl rfl ?_
        refine kx_getr 57 F fl_X11_26 hk_c0 rfl rfl (j := 5) rfl dX11_next_54 (v := (M c0 5)) (by rw [Fr.e hG_N_17 hk_c0 _ rfl, Fr.e hG_N_13 hk_c0 _ rfl]) rfl ?_
        refine kx_aload_n 58 F 0 dX11_next_57 rfl rfl rfl ?_
        refine kx_getr 61 F fl_X11_26 hk_c0 rfl rfl (j := 5) rfl dX11_next_58 (v := (M c0 5)) (by rw [Fr.e hG_N_17 hk_c0 _ rfl, Fr.e hG_N_13 hk_c0 _ rfl]) rfl ?_
        refine kx_iload_n 62 F 1 dX11_next_61 rfl rfl rfl ?_
        refine kx_Vr 65 (ci := 0) F (As := [vI a1]) (st := [vR G (M c0 5), vR G r_16, vR G c0]) vd_X11_164 (c_X5_pick G l N_17 (M c0 5) a1 hI_N_17 hk_1 (by omega)) hk_1 rfl rfl rfl ⟨by decide, by decide⟩ rfl rfl (Nat.le_of_ble_eq_true rfl) dX11_next_62 rfl ?_
        intro r_20 N_21 q_22
        obtain ⟨rfl, hk_23⟩ := q_22
        refine kx_iload_n 66 F 2 dX11_next_65 rfl rfl rfl ?_
        refine kx_iload_n 67 F 3 dX11_next_66 rfl rfl rfl ?_
        refine kx_Vi 70 (ci := 0) F (As := [vR G (M c0 5), vR G r_20, vI a2, vI a3]) (st := [vR G c0]) vd_X11_289 (c_X7_after G l N_17 r_16 (M c0 5) r_20 a2 a3 hI_N_17 hk_19 hk_1 hk_23 (by omega)) hk_19 rfl rfl rfl ⟨by decide, by decide⟩ rfl rfl (Nat.le_of_ble_eq_true rfl) dX11_next_67 rfl ?_
        intro r_24 N_25 q_26
        obtain ⟨rfl, q_26c⟩ := q_26
        refine kx_Vi 73 (ci := 0) F (As := [vI r_24]) (st := []) vd_X11_145 (c_X11_answer G l N_17 c0 r_24 hI_N_17 hk_c0 (by omega)) hk_c0 rfl rfl rfl ⟨by decide, by decide⟩ rfl rfl (Nat.le_of_ble_eq_true rfl) dX11_next_70 rfl ?_
        intro r_27 N_28 q_29
        obtain ⟨hI_N_28, hG_N_28, q_29c⟩ := q_29
        have hF_N_28 : Fr f_c_X11_next M N_28 := Fr.c hF_N_17 hG_N_28 rfl
        have hX_N_28 : XX N_28 := XX.fr hX_N_17 hI_N_17 hG_N_28 rfl
        exact kx_iret F hQ ⟨hI_N_28, hF_N_28, (by omega), hX_N_28⟩ dX11_next_73
      · refine kx_istore 35 F 4 (lo' := [some (vR G c0), some (vI a1), some (vI a2), some (vI a3), some (vI r_12)]) dX11_next_33 (by decide) rfl rfl rfl ?_
        refine kx_iload 37 F 4 dX11_next_35 rfl rfl ?_
        refine kx_if_eq 40 F 47 dX11_next_37 (by decide) rfl (by omega) (fun h_30 => (by exfalso; omega)) (fun h_30 => ?_)
        refine kx_aload_n 41 F 0 dX11_next_40 rfl rfl rfl ?_
        refine kx_iload 43 F 4 dX11_next_41 rfl rfl ?_
        refine kx_Vi 46 (ci := 0) F (As := [vI r_12]) (st := []) vd_X11_110 (c_X11_refuse G l N_13 c0 r_12 hI_N_13 hk_c0 (by omega)) hk_c0 rfl rfl rfl ⟨by decide, by decide⟩ rfl rfl (Nat.le_of_ble_eq_true rfl) dX11_next_43 rfl ?_
        intro r_31 N_32 q_33
        obtain ⟨hI_N_32, hG_N_32, q_33c⟩ := q_33
        have hF_N_32 : Fr f_c_X11_next M N_32 := Fr.c hF_N_13 hG_N_32 rfl
        have hX_N_32 : XX N_32 := XX.fr hX_N_13 hI_N_13 hG_N_32 rfl
        subst q_33c
        exact kx_iret F hQ ⟨hI_N_32, hF_N_32, (by omega), hX_N_32⟩ dX11_next_46
    · refine kx_if_eq 23 F 27 dX11_next_20 (by decide) rfl (by omega) (fun h_34 => ?_) (fun h_34 => (by exfalso; omega))
      refine kx_iconst 28 F dX11_next_27 rfl ?_
      refine kx_iload_n 29 F 1 dX11_next_28 rfl rfl rfl ?_
      refine kx_iload_n 30 F 2 dX11_next_29 rfl rfl rfl ?_
      refine kx_Vi 33 (ci := 0) F (As := [vI 0, vI a1, vI a2]) (st := []) vd_X11_278 (c_X11_summaryRefusal G l M c0 0 a1 a2 hI_M hk_c0 (by omega) hX_M) hk_c0 rfl rfl rfl ⟨by decide, by decide⟩ rfl rfl (Nat.le_of_ble_eq_true rfl) dX11_next_30 rfl ?_
      intro r_35 N_36 q_37
      obtain ⟨hI_N_36, hG_N_36, q_37c, hX_N_36⟩ := q_37
      have hF_N_36 : Fr f_c_X11_next M N_36 := Fr.c hF_M hG_N_36 rfl
      rcases q_37c with q_37c | q_37c
      · exfalso; omega
      · refine kx_istore 35 F 4 (lo' := [some (vR G c0), some (vI a1), some (vI a2), some (vI a3), some (vI r_35)]) dX11_next_33 (by decide) rfl rfl rfl ?_
        refine kx_iload 37 F 4 dX11_next_35 rfl rfl ?_
        refine kx_if_eq 40 F 47 dX11_next_37 (by decide) rfl (by omega) (fun h_38 => (by exfalso; omega)) (fun h_38 => ?_)
        refine kx_aload_n 41 F 0 dX11_next_40 rfl rfl rfl ?_
        refine kx_iload 43 F 4 dX11_next_41 rfl rfl ?_
        refine kx_Vi 46 (ci := 0) F (As := [vI r_35]) (st := []) vd_X11_110 (c_X11_refuse G l N_36 c0 r_35 hI_N_36 hk_c0 (by omega)) hk_c0 rfl rfl rfl ⟨by decide, by decide⟩ rfl rfl (Nat.le_of_ble_eq_true rfl) dX11_next_43 rfl ?_
        intro r_39 N_40 q_41
        obtain ⟨hI_N_40, hG_N_40, q_41c⟩ := q_41
        have hF_N_40 : Fr f_c_X11_next M N_40 := Fr.c hF_N_36 hG_N_40 rfl
        have hX_N_40 : XX N_40 := XX.fr hX_N_36 hI_N_36 hG_N_40 rfl
        subst q_41c
        exact kx_iret F hQ ⟨hI_N_40, hF_N_40, (by omega), hX_N_40⟩ dX11_next_46
  · refine kx_if_eq 12 F 27 dX11_next_9 (by decide) rfl (by omega) (fun h_42 => ?_) (fun h_42 => (by exfalso; omega))
    refine kx_iconst 28 F dX11_next_27 rfl ?_
    refine kx_iload_n 29 F 1 dX11_next_28 rfl rfl rfl ?_
    refine kx_iload_n 30 F 2 dX11_next_29 rfl rfl rfl ?_
    refine kx_Vi 33 (ci := 0) F (As := [vI 0, vI a1, vI a2]) (st := []) vd_X11_278 (c_X11_summaryRefusal G l M c0 0 a1 a2 hI_M hk_c0 (by omega) hX_M) hk_c0 rfl rfl rfl ⟨by decide, by decide⟩ rfl rfl (Nat.le_of_ble_eq_true rfl) dX11_next_30 rfl ?_
    intro r_43 N_44 q_45
    obtain ⟨hI_N_44, hG_N_44, q_45c, hX_N_44⟩ := q_45
    have hF_N_44 : Fr f_c_X11_next M N_44 := Fr.c hF_M hG_N_44 rfl
    rcases q_45c with q_45c | q_45c
    · exfalso; omega
    · refine kx_istore 35 F 4 (lo' := [some (vR G c0), some (vI a1), some (vI a2), some (vI a3), some (vI r_43)]) dX11_next_33 (by decide) rfl rfl rfl ?_
      refine kx_iload 37 F 4 dX11_next_35 rfl rfl ?_
      refine kx_if_eq 40 F 47 dX11_next_37 (by decide) rfl (by omega) (fun h_46 => (by exfalso; omega)) (fun h_46 => ?_)
      refine kx_aload_n 41 F 0 dX11_next_40 rfl rfl rfl ?_
      refine kx_iload 43 F 4 dX11_next_41 rfl rfl ?_
      refine kx_Vi 46 (ci := 0) F (As := [vI r_43]) (st := []) vd_X11_110 (c_X11_refuse G l N_44 c0 r_43 hI_N_44 hk_c0 (by omega)) hk_c0 rfl rfl rfl ⟨by decide, by decide⟩ rfl rfl (Nat.le_of_ble_eq_true rfl) dX11_next_43 rfl ?_
      intro r_47 N_48 q_49
      obtain ⟨hI_N_48, hG_N_48, q_49c⟩ := q_49
      have hF_N_48 : Fr f_c_X11_next M N_48 := Fr.c hF_N_44 hG_N_48 rfl
      have hX_N_48 : XX N_48 := XX.fr hX_N_44 hI_N_44 hG_N_48 rfl
      subst q_49c
      exact kx_iret F hQ ⟨hI_N_48, hF_N_48, (by omega), hX_N_48⟩ dX11_next_46
theorem dX11_well_0 : decode cX11_well 0 = .ok (.aload_n 0, 1) := by decide +kernel
theorem dX11_well_1 : decode cX11_well 1 = .ok (.iload_n 1, 1) := by decide +kernel
theorem dX11_well_2 : decode cX11_well 2 = .ok (.iload_n 2, 1) := by decide +kernel
theorem dX11_well_3 : decode cX11_well 3 = .ok (.invokevirtual 215, 3) := by decide +kernel
theorem dX11_well_6 : decode cX11_well 6 = .ok (.ifCond .eq 12, 3) := by decide +kernel
theorem dX11_well_9 : decode cX11_well 9 = .ok (.aload_n 0, 1) := by decide +kernel
theorem dX11_well_10 : decode cX11_well 10 = .ok (.iload_n 1, 1) := by decide +kernel
theorem dX11_well_11 : decode cX11_well 11 = .ok (.iload_n 3, 1) := by decide +kernel
theorem dX11_well_12 : decode cX11_well 12 = .ok (.invokevirtual 215, 3) := by decide +kernel
theorem dX11_well_15 : decode cX11_well 15 = .ok (.ifCond .ne 9, 3) := by decide +kernel
theorem dX11_well_18 : decode cX11_well 18 = .ok (.aload_n 0, 1) := by decide +kernel
theorem dX11_well_19 : decode cX11_well 19 = .ok (.iconst 1, 1) := by decide +kernel
theorem dX11_well_20 : decode cX11_well 20 = .ok (.invokevirtual 110, 3) := by decide +kernel
theorem dX11_well_23 : decode cX11_well 23 = .ok (.ireturn, 1) := by decide +kernel
theorem dX11_well_24 : decode cX11_well 24 = .ok (.aload_n 0, 1) := by decide +kernel
theorem dX11_well_25 : decode cX11_well 25 = .ok (.getfield 47, 3) := by decide +kernel
theorem dX11_well_28 : decode cX11_well 28 = .ok (.aload_n 0, 1) := by decide +kernel
theorem dX11_well_29 : decode cX11_well 29 = .ok (.getfield 26, 3) := by decide +kernel
theorem dX11_well_32 : decode cX11_well 32 = .ok (.aload_n 0, 1) := by decide +kernel
theorem dX11_well_33 : decode cX11_well 33 = .ok (.getfield 26, 3) := by decide +kernel
theorem dX11_well_36 : decode cX11_well 36 = .ok (.iload_n 1, 1) := by decide +kernel
theorem dX11_well_37 : decode cX11_well 37 = .ok (.invokevirtual 164, 3) := by decide +kernel
theorem dX11_well_40 : decode cX11_well 40 = .ok (.iload_n 2, 1) := by decide +kernel
theorem dX11_well_41 : decode cX11_well 41 = .ok (.iload_n 3, 1) := by decide +kernel
theorem dX11_well_42 : decode cX11_well 42 = .ok (.invokevirtual 306, 3) := by decide +kernel
theorem dX11_well_45 : decode cX11_well 45 = .ok (.istore 4, 2) := by decide +kernel
theorem dX11_well_47 : decode cX11_well 47 = .ok (.iload 4, 2) := by decide +kernel
theorem dX11_well_49 : decode cX11_well 49 = .ok (.iconst (-1), 1) := by decide +kernel
theorem dX11_well_50 : decode cX11_well 50 = .ok (.if_icmp .ne 12, 3) := by decide +kernel
theorem dX11_well_53 : decode cX11_well 53 = .ok (.aload_n 0, 1) := by decide +kernel
theorem dX11_well_54 : decode cX11_well 54 = .ok (.bipush 6, 2) := by decide +kernel
theorem dX11_well_56 : decode cX11_well 56 = .ok (.invokevirtual 110, 3) := by decide +kernel
theorem dX11_well_59 : decode cX11_well 59 = .ok (.goto 9, 3) := by decide +kernel
theorem dX11_well_62 : decode cX11_well 62 = .ok (.aload_n 0, 1) := by decide +kernel
theorem dX11_well_63 : decode cX11_well 63 = .ok (.iload 4, 2) := by decide +kernel
theorem dX11_well_65 : decode cX11_well 65 = .ok (.invokevirtual 145, 3) := by decide +kernel
theorem dX11_well_68 : decode cX11_well 68 = .ok (.ireturn, 1) := by decide +kernel
abbrev f_c_X11_well : List (Nat × Int) := [(26, 0), (27, -1), (28, -1), (29, -1), (30, -1), (31, 0), (35, -1), (36, 0), (37, -1), (38, -1), (39, -1), (40, -1), (41, 3), (41, 4), (41, 5), (41, 7), (41, 8), (41, 9), (41, 13), (44, -1), (45, -1), (46, -1), (62, 0)]
set_option maxHeartbeats 4000000 in
set_option maxRecDepth 100000 in
theorem c_X11_well (G : KG) (l : Launch) (M : Mem) (c0 : Int) (a1 : Int) (a2 : Int) (a3 : Int) (hI_M : Inv false M) (hk_c0 : kd c0 = 62) (hpre : -2147483648 ≤ a1 ∧ a1 ≤ 2147483647 ∧ -2147483648 ≤ a2 ∧ a2 ≤ 2147483647 ∧ -2147483648 ≤ a3 ∧ a3 ≤ 2147483647) (hX_M : XX M) : KC false G l yX11_well cX11_well 5 (some .int) (7, 171) [vR G c0, vI a1, vI a2, vI a3] M (fun A => kQi false G A (fun (r : Int) (N : Mem) => Inv false N ∧ Fr f_c_X11_well M N ∧ (r ≥ -1 ∧ r ≤ 1000000000) ∧ XX N)) := by
  refine kx_met (lo := [some (vR G c0), some (vI a1), some (vI a2), some (vI a3), none]) (by decide) (Nat.le_of_ble_eq_true rfl) rfl ?_
  intro X F hQ
  have hF_M : Fr f_c_X11_well M M := Fr.rf _ _
  refine kx_aload_n 1 F 0 dX11_well_0 rfl rfl rfl ?_
  refine kx_iload_n 2 F 1 dX11_well_1 rfl rfl rfl ?_
  refine kx_iload_n 3 F 2 dX11_well_2 rfl rfl rfl ?_
  refine kx_Vi 6 (ci := 0) F (As := [vI a1, vI a2]) (st := []) vd_X11_215 (c_X11_hasState G l M c0 a1 a2 hI_M hk_c0 (by omega)) hk_c0 rfl rfl rfl ⟨by decide, by decide⟩ rfl rfl (Nat.le_of_ble_eq_true rfl) dX11_well_3 rfl ?_
  intro r_1 N_2 q_3
  obtain ⟨rfl, q_3c⟩ := q_3
  rcases q_3c with q_3c | q_3c
  · refine kx_if_eq 9 F 18 dX11_well_6 (by decide) rfl (by omega) (fun h_4 => (by exfalso; omega)) (fun h_4 => ?_)
    refine kx_aload_n 10 F 0 dX11_well_9 rfl rfl rfl ?_
    refine kx_iload_n 11 F 1 dX11_well_10 rfl rfl rfl ?_
    refine kx_iload_n 12 F 3 dX11_well_11 rfl rfl rfl ?_
    refine kx_Vi 15 (ci := 0) F (As := [vI a1, vI a3]) (st := []) vd_X11_215 (c_X11_hasState G l M c0 a1 a3 hI_M hk_c0 (by omega)) hk_c0 rfl rfl rfl ⟨by decide, by decide⟩ rfl rfl (Nat.le_of_ble_eq_true rfl) dX11_well_12 rfl ?_
    intro r_5 N_6 q_7
    obtain ⟨rfl, q_7c⟩ := q_7
    rcases q_7c with q_7c | q_7c
    · refine kx_if_ne 18 F 24 dX11_well_15 (by decide) rfl (by omega) (fun h_8 => ?_) (fun h_8 => (by exfalso; omega))
      refine kx_aload_n 25 F 0 dX11_well_24 rfl rfl rfl ?_
      refine kx_getr 28 F fl_X11_47 hk_c0 rfl rfl (j := 10) rfl dX11_well_25 (v := (M c0 10)) rfl rfl ?_
      have hk_9 : kd (M c0 10) = 41 := Inv.r hI_M hk_c0 rfl 10 rfl rfl
      refine kx_aload_n 29 F 0 dX11_well_28 rfl rfl rfl ?_
      refine kx_getr 32 F fl_X11_26 hk_c0 rfl rfl (j := 5) rfl dX11_well_29 (v := (M c0 5)) rfl rfl ?_
      have hk_10 : kd (M c0 5) = 12 := Inv.r hI_M hk_c0 rfl 5 rfl rfl
      refine kx_aload_n 33 F 0 dX11_well_32 rfl rfl rfl ?_
      refine kx_getr 36 F fl_X11_26 hk_c0 rfl rfl (j := 5) rfl dX11_well_33 (v := (M c0 5)) rfl rfl ?_
      refine kx_iload_n 37 F 1 dX11_well_36 rfl rfl rfl ?_
      refine kx_Vr 40 (ci := 0) F (As := [vI a1]) (st := [vR G (M c0 5), vR G (M c0 10)]) vd_X11_164 (c_X5_pick G l M (M c0 5) a1 hI_M hk_10 (by omega)) hk_10 rfl rfl rfl ⟨by decide, by decide⟩ rfl rfl (Nat.le_of_ble_eq_true rfl) dX11_well_37 rfl ?_
      intro r_11 N_12 q_13
      obtain ⟨rfl, hk_14⟩ := q_13
      refine kx_iload_n 41 F 2 dX11_well_40 rfl rfl rfl ?_
      refine kx_iload_n 42 F 3 dX11_well_41 rfl rfl rfl ?_
      refine kx_Vi 45 (ci := 0) F (As := [vR G (M c0 5), vR G r_11, vI a2, vI a3]) (st := []) vd_X11_306 (c_X4_wellLength G l M (M c0 10) (M c0 5) r_11 a2 a3 hI_M hk_9 hk_10 hk_14 (by omega) hX_M) hk_9 rfl rfl rfl ⟨by decide, by decide⟩ rfl rfl (Nat.le_of_ble_eq_true rfl) dX11_well_42 rfl ?_
      intro r_15 N_16 q_17
      obtain ⟨hI_N_16, hG_N_16, q_17c, hX_N_16⟩ := q_17
      have hF_N_16 : Fr f_c_X11_well M N_16 := Fr.c hF_M hG_N_16 rfl
      refine kx_istore 47 F 4 (lo' := [some (vR G c0), some (vI a1), some (vI a2), some (vI a3), some (vI r_15)]) dX11_well_45 (by decide) rfl rfl rfl ?_
      refine kx_iload 49 F 4 dX11_well_47 rfl rfl ?_
      refine kx_iconst 50 F dX11_well_49 rfl ?_
      refine kx_icmp_ne 53 F 62 dX11_well_50 (by decide) rfl (by omega) (by decide) (fun h_18 => ?_) (fun h_18 => ?_)
      · refine kx_aload_n 63 F 0 dX11_well_62 rfl rfl rfl ?_
        refine kx_iload 65 F 4 dX11_well_63 rfl rfl ?_
        refine kx_Vi 68 (ci := 0) F (As := [vI r_15]) (st := []) vd_X11_145 (c_X11_answer G l N_16 c0 r_15 hI_N_16 hk_c0 (by omega)) hk_c0 rfl rfl rfl ⟨by decide, by decide⟩ rfl rfl (Nat.le_of_ble_eq_true rfl) dX11_well_65 rfl ?_
        intro r_19 N_20 q_21
        obtain ⟨hI_N_20, hG_N_20, q_21c⟩ := q_21
        have hF_N_20 : Fr f_c_X11_well M N_20 := Fr.c hF_N_16 hG_N_20 rfl
        have hX_N_20 : XX N_20 := XX.fr hX_N_16 hI_N_16 hG_N_20 rfl
        exact kx_iret F hQ ⟨hI_N_20, hF_N_20, (by omega), hX_N_20⟩ dX11_well_68
      · refine kx_aload_n 54 F 0 dX11_well_53 rfl rfl rfl ?_
        refine kx_bipush 56 F dX11_well_54 (by decide) rfl ?_
        refine kx_Vi 59 (ci := 0) F (As := [vI 6]) (st := []) vd_X11_110 (c_X11_refuse G l N_16 c0 6 hI_N_16 hk_c0 (by omega)) hk_c0 rfl rfl rfl ⟨by decide, by decide⟩ rfl rfl (Nat.le_of_ble_eq_true rfl) dX11_well_56 rfl ?_
        intro r_22 N_23 q_24
        obtain ⟨hI_N_23, hG_N_23, q_24c⟩ := q_24
        have hF_N_23 : Fr f_c_X11_well M N_23 := Fr.c hF_N_16 hG_N_23 rfl
        have hX_N_23 : XX N_23 := XX.fr hX_N_16 hI_N_16 hG_N_23 rfl
        subst q_24c
        refine kx_goto 68 F dX11_well_59 (by decide) ?_
        exact kx_iret F hQ ⟨hI_N_23, hF_N_23, (by omega), hX_N_23⟩ dX11_well_68
    · refine kx_if_ne 18 F 24 dX11_well_15 (by decide) rfl (by omega) (fun h_25 => (by exfalso; omega)) (fun h_25 => ?_)
      refine kx_aload_n 19 F 0 dX11_well_18 rfl rfl rfl ?_
      refine kx_iconst 20 F dX11_well_19 rfl ?_
      refine kx_Vi 23 (ci := 0) F (As := [vI 1]) (st := []) vd_X11_110 (c_X11_refuse G l M c0 1 hI_M hk_c0 (by omega)) hk_c0 rfl rfl rfl ⟨by decide, by decide⟩ rfl rfl (Nat.le_of_ble_eq_true rfl) dX11_well_20 rfl ?_
      intro r_26 N_27 q_28
      obtain ⟨hI_N_27, hG_N_27, q_28c⟩ := q_28
      have hF_N_27 : Fr f_c_X11_well M N_27 := Fr.c hF_M hG_N_27 rfl
      have hX_N_27 : XX N_27 := XX.fr hX_M hI_M hG_N_27 rfl
      subst q_28c
      exact kx_iret F hQ ⟨hI_N_27, hF_N_27, (by omega), hX_N_27⟩ dX11_well_23
  · refine kx_if_eq 9 F 18 dX11_well_6 (by decide) rfl (by omega) (fun h_29 => ?_) (fun h_29 => (by exfalso; omega))
    refine kx_aload_n 19 F 0 dX11_well_18 rfl rfl rfl ?_
    refine kx_iconst 20 F dX11_well_19 rfl ?_
    refine kx_Vi 23 (ci := 0) F (As := [vI 1]) (st := []) vd_X11_110 (c_X11_refuse G l M c0 1 hI_M hk_c0 (by omega)) hk_c0 rfl rfl rfl ⟨by decide, by decide⟩ rfl rfl (Nat.le_of_ble_eq_true rfl) dX11_well_20 rfl ?_
    intro r_30 N_31 q_32
    obtain ⟨hI_N_31, hG_N_31, q_32c⟩ := q_32
    have hF_N_31 : Fr f_c_X11_well M N_31 := Fr.c hF_M hG_N_31 rfl
    have hX_N_31 : XX N_31 := XX.fr hX_M hI_M hG_N_31 rfl
    subst q_32c
    exact kx_iret F hQ ⟨hI_N_31, hF_N_31, (by omega), hX_N_31⟩ dX11_well_23
theorem dX11_nextBack_0 : decode cX11_nextBack 0 = .ok (.aload_n 0, 1) := by decide +kernel
theorem dX11_nextBack_1 : decode cX11_nextBack 1 = .ok (.getfield 26, 3) := by decide +kernel
theorem dX11_nextBack_4 : decode cX11_nextBack 4 = .ok (.iload_n 1, 1) := by decide +kernel
theorem dX11_nextBack_5 : decode cX11_nextBack 5 = .ok (.invokevirtual 163, 3) := by decide +kernel
theorem dX11_nextBack_8 : decode cX11_nextBack 8 = .ok (.ifCond .eq 31, 3) := by decide +kernel
theorem dX11_nextBack_11 : decode cX11_nextBack 11 = .ok (.aload_n 0, 1) := by decide +kernel
theorem dX11_nextBack_12 : decode cX11_nextBack 12 = .ok (.getfield 26, 3) := by decide +kernel
theorem dX11_nextBack_15 : decode cX11_nextBack 15 = .ok (.iload_n 3, 1) := by decide +kernel
theorem dX11_nextBack_16 : decode cX11_nextBack 16 = .ok (.invokevirtual 242, 3) := by decide +kernel
theorem dX11_nextBack_19 : decode cX11_nextBack 19 = .ok (.iconst 1, 1) := by decide +kernel
theorem dX11_nextBack_20 : decode cX11_nextBack 20 = .ok (.if_icmp .ne 19, 3) := by decide +kernel
theorem dX11_nextBack_23 : decode cX11_nextBack 23 = .ok (.aload_n 0, 1) := by decide +kernel
theorem dX11_nextBack_24 : decode cX11_nextBack 24 = .ok (.getfield 26, 3) := by decide +kernel
theorem dX11_nextBack_27 : decode cX11_nextBack 27 = .ok (.iload 5, 2) := by decide +kernel
theorem dX11_nextBack_29 : decode cX11_nextBack 29 = .ok (.invokevirtual 242, 3) := by decide +kernel
theorem dX11_nextBack_32 : decode cX11_nextBack 32 = .ok (.ifCond .ne 7, 3) := by decide +kernel
theorem dX11_nextBack_35 : decode cX11_nextBack 35 = .ok (.iconst 1, 1) := by decide +kernel
theorem dX11_nextBack_36 : decode cX11_nextBack 36 = .ok (.goto 4, 3) := by decide +kernel
theorem dX11_nextBack_39 : decode cX11_nextBack 39 = .ok (.iconst 0, 1) := by decide +kernel
theorem dX11_nextBack_40 : decode cX11_nextBack 40 = .ok (.istore 6, 2) := by decide +kernel
theorem dX11_nextBack_42 : decode cX11_nextBack 42 = .ok (.aload_n 0, 1) := by decide +kernel
theorem dX11_nextBack_43 : decode cX11_nextBack 43 = .ok (.iload 6, 2) := by decide +kernel
theorem dX11_nextBack_45 : decode cX11_nextBack 45 = .ok (.iload_n 1, 1) := by decide +kernel
theorem dX11_nextBack_46 : decode cX11_nextBack 46 = .ok (.iload_n 2, 1) := by decide +kernel
theorem dX11_nextBack_47 : decode cX11_nextBack 47 = .ok (.invokevirtual 278, 3) := by decide +kernel
theorem dX11_nextBack_50 : decode cX11_nextBack 50 = .ok (.istore 7, 2) := by decide +kernel
theorem dX11_nextBack_52 : decode cX11_nextBack 52 = .ok (.iload 7, 2) := by decide +kernel
theorem dX11_nextBack_54 : decode cX11_nextBack 54 = .ok (.ifCond .ne 13, 3) := by decide +kernel
theorem dX11_nextBack_57 : decode cX11_nextBack 57 = .ok (.aload_n 0, 1) := by decide +kernel
theorem dX11_nextBack_58 : decode cX11_nextBack 58 = .ok (.iconst 1, 1) := by decide +kernel
theorem dX11_nextBack_59 : decode cX11_nextBack 59 = .ok (.iload_n 1, 1) := by decide +kernel
theorem dX11_nextBack_60 : decode cX11_nextBack 60 = .ok (.iload 4, 2) := by decide +kernel
theorem dX11_nextBack_62 : decode cX11_nextBack 62 = .ok (.invokevirtual 278, 3) := by decide +kernel
theorem dX11_nextBack_65 : decode cX11_nextBack 65 = .ok (.istore 7, 2) := by decide +kernel
theorem dX11_nextBack_67 : decode cX11_nextBack 67 = .ok (.iload 7, 2) := by decide +kernel
theorem dX11_nextBack_69 : decode cX11_nextBack 69 = .ok (.ifCond .eq 10, 3) := by decide +kernel
theorem dX11_nextBack_72 : decode cX11_nextBack 72 = .ok (.aload_n 0, 1) := by decide +kernel
theorem dX11_nextBack_73 : decode cX11_nextBack 73 = .ok (.iload 7, 2) := by decide +kernel
theorem dX11_nextBack_75 : decode cX11_nextBack 75 = .ok (.invokevirtual 110, 3) := by decide +kernel
theorem dX11_nextBack_78 : decode cX11_nextBack 78 = .ok (.ireturn, 1) := by decide +kernel
theorem dX11_nextBack_79 : decode cX11_nextBack 79 = .ok (.aload_n 0, 1) := by decide +kernel
theorem dX11_nextBack_80 : decode cX11_nextBack 80 = .ok (.iload_n 1, 1) := by decide +kernel
theorem dX11_nextBack_81 : decode cX11_nextBack 81 = .ok (.invokevirtual 268, 3) := by decide +kernel
theorem dX11_nextBack_84 : decode cX11_nextBack 84 = .ok (.astore 8, 2) := by decide +kernel
theorem dX11_nextBack_86 : decode cX11_nextBack 86 = .ok (.aload_n 0, 1) := by decide +kernel
theorem dX11_nextBack_87 : decode cX11_nextBack 87 = .ok (.getfield 26, 3) := by decide +kernel
theorem dX11_nextBack_90 : decode cX11_nextBack 90 = .ok (.iload_n 1, 1) := by decide +kernel
theorem dX11_nextBack_91 : decode cX11_nextBack 91 = .ok (.invokevirtual 164, 3) := by decide +kernel
theorem dX11_nextBack_94 : decode cX11_nextBack 94 = .ok (.iload 5, 2) := by decide +kernel
theorem dX11_nextBack_96 : decode cX11_nextBack 96 = .ok (.iload_n 3, 1) := by decide +kernel
theorem dX11_nextBack_97 : decode cX11_nextBack 97 = .ok (.aload 8, 2) := by decide +kernel
theorem dX11_nextBack_99 : decode cX11_nextBack 99 = .ok (.getfield 283, 3) := by decide +kernel
theorem dX11_nextBack_102 : decode cX11_nextBack 102 = .ok (.iload_n 2, 1) := by decide +kernel
theorem dX11_nextBack_103 : decode cX11_nextBack 103 = .ok (.iaload, 1) := by decide +kernel
theorem dX11_nextBack_104 : decode cX11_nextBack 104 = .ok (.invokevirtual 293, 3) := by decide +kernel
theorem dX11_nextBack_107 : decode cX11_nextBack 107 = .ok (.istore 9, 2) := by decide +kernel
theorem dX11_nextBack_109 : decode cX11_nextBack 109 = .ok (.aload_n 0, 1) := by decide +kernel
theorem dX11_nextBack_110 : decode cX11_nextBack 110 = .ok (.aload 8, 2) := by decide +kernel
theorem dX11_nextBack_112 : decode cX11_nextBack 112 = .ok (.aload 8, 2) := by decide +kernel
theorem dX11_nextBack_114 : decode cX11_nextBack 114 = .ok (.getfield 281, 3) := by decide +kernel
theorem dX11_nextBack_117 : decode cX11_nextBack 117 = .ok (.iload 4, 2) := by decide +kernel
theorem dX11_nextBack_119 : decode cX11_nextBack 119 = .ok (.iaload, 1) := by decide +kernel
theorem dX11_nextBack_120 : decode cX11_nextBack 120 = .ok (.iload 9, 2) := by decide +kernel
theorem dX11_nextBack_122 : decode cX11_nextBack 122 = .ok (.invokestatic 296, 3) := by decide +kernel
theorem dX11_nextBack_125 : decode cX11_nextBack 125 = .ok (.aload 8, 2) := by decide +kernel
theorem dX11_nextBack_127 : decode cX11_nextBack 127 = .ok (.getfield 283, 3) := by decide +kernel
theorem dX11_nextBack_130 : decode cX11_nextBack 130 = .ok (.iload 4, 2) := by decide +kernel
theorem dX11_nextBack_132 : decode cX11_nextBack 132 = .ok (.iaload, 1) := by decide +kernel
theorem dX11_nextBack_133 : decode cX11_nextBack 133 = .ok (.iload 9, 2) := by decide +kernel
theorem dX11_nextBack_135 : decode cX11_nextBack 135 = .ok (.invokestatic 301, 3) := by decide +kernel
theorem dX11_nextBack_138 : decode cX11_nextBack 138 = .ok (.invokevirtual 304, 3) := by decide +kernel
theorem dX11_nextBack_141 : decode cX11_nextBack 141 = .ok (.invokevirtual 145, 3) := by decide +kernel
theorem dX11_nextBack_144 : decode cX11_nextBack 144 = .ok (.ireturn, 1) := by decide +kernel
abbrev f_c_X11_nextBack : List (Nat × Int) := [(21, 0), (21, 1), (22, -1), (23, -1), (24, -1), (25, -1), (62, 0)]
set_option maxHeartbeats 4000000 in
set_option maxRecDepth 100000 in
theorem c_X11_nextBack (G : KG) (l : Launch) (M : Mem) (c0 : Int) (a1 : Int) (a2 : Int) (a3 : Int) (a4 : Int) (a5 : Int) (hI_M : Inv false M) (hk_c0 : kd c0 = 62) (hpre : -2147483648 ≤ a1 ∧ a1 ≤ 2147483647 ∧ -2147483648 ≤ a2 ∧ a2 ≤ 2147483647 ∧ -2147483648 ≤ a3 ∧ a3 ≤ 2147483647 ∧ -2147483648 ≤ a4 ∧ a4 ≤ 2147483647 ∧ -2147483648 ≤ a5 ∧ a5 ≤ 2147483647) (hX_M : XX M) : KC false G l yX11_nextBack cX11_nextBack 10 (some .int) (6, 143) [vR G c0, vI a1, vI a2, vI a3, vI a4, vI a5] M (fun A => kQi false G A (fun (r : Int) (N : Mem) => Inv false N ∧ Fr f_c_X11_nextBack M N ∧ (r ≥ -1 ∧ r ≤ 39) ∧ XX N)) := by
  refine kx_met (lo := [some (vR G c0), some (vI a1), some (vI a2), some (vI a3), some (vI a4), some (vI a5), none, none, none, none]) (by decide) (Nat.le_of_ble_eq_true rfl) rfl ?_
  intro X F hQ
  have hF_M : Fr f_c_X11_nextBack M M := Fr.rf _ _
  refine kx_aload_n 1 F 0 dX11_nextBack_0 rfl rfl rfl ?_
  refine kx_getr 4 F fl_X11_26 hk_c0 rfl rfl (j := 5) rfl dX11_nextBack_1 (v := (M c0 5)) rfl rfl ?_
  have hk_1 : kd (M c0 5) = 12 := Inv.r hI_M hk_c0 rfl 5 rfl rfl
  refine kx_iload_n 5 F 1 dX11_nextBack_4 rfl rfl rfl ?_
  refine kx_Vi 8 (ci := 0) F (As := [vI a1]) (st := []) vd_X11_163 (c_X5_has G l M (M c0 5) a1 hI_M hk_1 (by omega)) hk_1 rfl rfl rfl ⟨by decide, by decide⟩ rfl rfl (Nat.le_of_ble_eq_true rfl) dX11_nextBack_5 rfl ?_
  intro r_2 N_3 q_4
  obtain ⟨rfl, q_4c⟩ := q_4
  have h_5 := Inv.g hI_M hk_1 rfl 3 (a := 0) (b := 2) rfl rfl
  rcases q_4c with q_4c | q_4c
  · refine kx_if_eq 11 F 39 dX11_nextBack_8 (by decide) rfl (by omega) (fun h_6 => (by exfalso; omega)) (fun h_6 => ?_)
    refine kx_aload_n 12 F 0 dX11_nextBack_11 rfl rfl rfl ?_
    refine kx_getr 15 F fl_X11_26 hk_c0 rfl rfl (j := 5) rfl dX11_nextBack_12 (v := (M c0 5)) rfl rfl ?_
    refine kx_iload_n 16 F 3 dX11_nextBack_15 rfl rfl rfl ?_
    refine kx_Vi 19 (ci := 0) F (As := [vI a3]) (st := []) vd_X11_242 (c_X5_sortOf G l M (M c0 5) a3 hI_M hk_1 (by omega)) hk_1 rfl rfl rfl ⟨by decide, by decide⟩ rfl rfl (Nat.le_of_ble_eq_true rfl) dX11_nextBack_16 rfl ?_
    intro r_7 N_8 q_9
    obtain ⟨rfl, q_9c⟩ := q_9
    have h_10 := Inv.g hI_M hk_1 rfl 2 (a := 0) (b := 6) rfl rfl
    rcases q_9c with q_9c | q_9c
    · refine kx_iconst 20 F dX11_nextBack_19 rfl ?_
      refine kx_icmp_ne 23 F 39 dX11_nextBack_20 (by decide) rfl (by omega) (by decide) (fun h_11 => ?_) (fun h_11 => (by exfalso; omega))
      refine kx_iconst 40 F dX11_nextBack_39 rfl ?_
      refine kx_istore 42 F 6 (lo' := [some (vR G c0), some (vI a1), some (vI a2), some (vI a3), some (vI a4), some (vI a5), some (vI 0), none, none, none]) dX11_nextBack_40 (by decide) rfl rfl rfl ?_
      refine kx_aload_n 43 F 0 dX11_nextBack_42 rfl rfl rfl ?_
      refine kx_iload 45 F 6 dX11_nextBack_43 rfl rfl ?_
      refine kx_iload_n 46 F 1 dX11_nextBack_45 rfl rfl rfl ?_
      refine kx_iload_n 47 F 2 dX11_nextBack_46 rfl rfl rfl ?_
      refine kx_Vi 50 (ci := 0) F (As := [vI 0, vI a1, vI a2]) (st := []) vd_X11_278 (c_X11_summaryRefusal G l M c0 0 a1 a2 hI_M hk_c0 (by omega) hX_M) hk_c0 rfl rfl rfl ⟨by decide, by decide⟩ rfl rfl (Nat.le_of_ble_eq_true rfl) dX11_nextBack_47 rfl ?_
      intro r_12 N_13 q_14
      obtain ⟨hI_N_13, hG_N_13, q_14c, hX_N_13⟩ := q_14
      have hF_N_13 : Fr f_c_X11_nextBack M N_13 := Fr.c hF_M hG_N_13 rfl
      rcases q_14c with q_14c | q_14c
      · exfalso; omega
      · refine kx_istore 52 F 7 (lo' := [some (vR G c0), some (vI a1), some (vI a2), some (vI a3), some (vI a4), some (vI a5), some (vI 0), some (vI r_12), none, none]) dX11_nextBack_50 (by decide) rfl rfl rfl ?_
        refine kx_iload 54 F 7 dX11_nextBack_52 rfl rfl ?_
        refine kx_if_ne 57 F 67 dX11_nextBack_54 (by decide) rfl (by omega) (fun h_15 => ?_) (fun h_15 => (by exfalso; omega))
        refine kx_iload 69 F 7 dX11_nextBack_67 rfl rfl ?_
        refine kx_if_eq 72 F 79 dX11_nextBack_69 (by decide) rfl (by omega) (fun h_16 => (by exfalso; omega)) (fun h_16 => ?_)
        refine kx_aload_n 73 F 0 dX11_nextBack_72 rfl rfl rfl ?_
        refine kx_iload 75 F 7 dX11_nextBack_73 rfl rfl ?_
        refine kx_Vi 78 (ci := 0) F (As := [vI r_12]) (st := []) vd_X11_110 (c_X11_refuse G l N_13 c0 r_12 hI_N_13 hk_c0 (by omega)) hk_c0 rfl rfl rfl ⟨by decide, by decide⟩ rfl rfl (Nat.le_of_ble_eq_true rfl) dX11_nextBack_75 rfl ?_
        intro r_17 N_18 q_19
        obtain ⟨hI_N_18, hG_N_18, q_19c⟩ := q_19
        have hF_N_18 : Fr f_c_X11_nextBack M N_18 := Fr.c hF_N_13 hG_N_18 rfl
        have hX_N_18 : XX N_18 := XX.fr hX_N_13 hI_N_13 hG_N_18 rfl
        subst q_19c
        exact kx_iret F hQ ⟨hI_N_18, hF_N_18, (by omega), hX_N_18⟩ dX11_nextBack_78
    · refine kx_iconst 20 F dX11_nextBack_19 rfl ?_
      refine kx_icmp_ne 23 F 39 dX11_nextBack_20 (by decide) rfl (by omega) (by decide) (fun h_20 => ?_) (fun h_20 => ?_)
      · refine kx_iconst 40 F dX11_nextBack_39 rfl ?_
        refine kx_istore 42 F 6 (lo' := [some (vR G c0), some (vI a1), some (vI a2), some (vI a3), some (vI a4), some (vI a5), some (vI 0), none, none, none]) dX11_nextBack_40 (by decide) rfl rfl rfl ?_
        refine kx_aload_n 43 F 0 dX11_nextBack_42 rfl rfl rfl ?_
        refine kx_iload 45 F 6 dX11_nextBack_43 rfl rfl ?_
        refine kx_iload_n 46 F 1 dX11_nextBack_45 rfl rfl rfl ?_
        refine kx_iload_n 47 F 2 dX11_nextBack_46 rfl rfl rfl ?_
        refine kx_Vi 50 (ci := 0) F (As := [vI 0, vI a1, vI a2]) (st := []) vd_X11_278 (c_X11_summaryRefusal G l M c0 0 a1 a2 hI_M hk_c0 (by omega) hX_M) hk_c0 rfl rfl rfl ⟨by decide, by decide⟩ rfl rfl (Nat.le_of_ble_eq_true rfl) dX11_nextBack_47 rfl ?_
        intro r_21 N_22 q_23
        obtain ⟨hI_N_22, hG_N_22, q_23c, hX_N_22⟩ := q_23
        have hF_N_22 : Fr f_c_X11_nextBack M N_22 := Fr.c hF_M hG_N_22 rfl
        rcases q_23c with q_23c | q_23c
        · exfalso; omega
        · refine kx_istore 52 F 7 (lo' := [some (vR G c0), some (vI a1), some (vI a2), some (vI a3), some (vI a4), some (vI a5), some (vI 0), some (vI r_21), none, none]) dX11_nextBack_50 (by decide) rfl rfl rfl ?_
          refine kx_iload 54 F 7 dX11_nextBack_52 rfl rfl ?_
          refine kx_if_ne 57 F 67 dX11_nextBack_54 (by decide) rfl (by omega) (fun h_24 => ?_) (fun h_24 => (by exfalso; omega))
          refine kx_iload 69 F 7 dX11_nextBack_67 rfl rfl ?_
          refine kx_if_eq 72 F 79 dX11_nextBack_69 (by decide) rfl (by omega) (fun h_25 => (by exfalso; omega)) (fun h_25 => ?_)
          refine kx_aload_n 73 F 0 dX11_nextBack_72 rfl rfl rfl ?_
          refine kx_iload 75 F 7 dX11_nextBack_73 rfl rfl ?_
          refine kx_Vi 78 (ci := 0) F (As := [vI r_21]) (st := []) vd_X11_110 (c_X11_refuse G l N_22 c0 r_21 hI_N_22 hk_c0 (by omega)) hk_c0 rfl rfl rfl ⟨by decide, by decide⟩ rfl rfl (Nat.le_of_ble_eq_true rfl) dX11_nextBack_75 rfl ?_
          intro r_26 N_27 q_28
          obtain ⟨hI_N_27, hG_N_27, q_28c⟩ := q_28
          have hF_N_27 : Fr f_c_X11_nextBack M N_27 := Fr.c hF_N_22 hG_N_27 rfl
          have hX_N_27 : XX N_27 := XX.fr hX_N_22 hI_N_22 hG_N_27 rfl
          subst q_28c
          exact kx_iret F hQ ⟨hI_N_27, hF_N_27, (by omega), hX_N_27⟩ dX11_nextBack_78
      · refine kx_aload_n 24 F 0 dX11_nextBack_23 rfl rfl rfl ?_
        refine kx_getr 27 F fl_X11_26 hk_c0 rfl rfl (j := 5) rfl dX11_nextBack_24 (v := (M c0 5)) rfl rfl ?_
        refine kx_iload 29 F 5 dX11_nextBack_27 rfl rfl ?_
        refine kx_Vi 32 (ci := 0) F (As := [vI a5]) (st := []) vd_X11_242 (c_X5_sortOf G l M (M c0 5) a5 hI_M hk_1 (by omega)) hk_1 rfl rfl rfl ⟨by decide, by decide⟩ rfl rfl (Nat.le_of_ble_eq_true rfl) dX11_nextBack_29 rfl ?_
        intro r_29 N_30 q_31
        obtain ⟨rfl, q_31c⟩ := q_31
        rcases q_31c with q_31c | q_31c
        · refine kx_if_ne 35 F 39 dX11_nextBack_32 (by decide) rfl (by omega) (fun h_32 => ?_) (fun h_32 => (by exfalso; omega))
          refine kx_iconst 40 F dX11_nextBack_39 rfl ?_
          refine kx_istore 42 F 6 (lo' := [some (vR G c0), some (vI a1), some (vI a2), some (vI a3), some (vI a4), some (vI a5), some (vI 0), none, none, none]) dX11_nextBack_40 (by decide) rfl rfl rfl ?_
          refine kx_aload_n 43 F 0 dX11_nextBack_42 rfl rfl rfl ?_
          refine kx_iload 45 F 6 dX11_nextBack_43 rfl rfl ?_
          refine kx_iload_n 46 F 1 dX11_nextBack_45 rfl rfl rfl ?_
          refine kx_iload_n 47 F 2 dX11_nextBack_46 rfl rfl rfl ?_
          refine kx_Vi 50 (ci := 0) F (As := [vI 0, vI a1, vI a2]) (st := []) vd_X11_278 (c_X11_summaryRefusal G l M c0 0 a1 a2 hI_M hk_c0 (by omega) hX_M) hk_c0 rfl rfl rfl ⟨by decide, by decide⟩ rfl rfl (Nat.le_of_ble_eq_true rfl) dX11_nextBack_47 rfl ?_
          intro r_33 N_34 q_35
          obtain ⟨hI_N_34, hG_N_34, q_35c, hX_N_34⟩ := q_35
          have hF_N_34 : Fr f_c_X11_nextBack M N_34 := Fr.c hF_M hG_N_34 rfl
          rcases q_35c with q_35c | q_35c
          · exfalso; omega
          · refine kx_istore 52 F 7 (lo' := [some (vR G c0), some (vI a1), some (vI a2), some (vI a3), some (vI a4), some (vI a5), some (vI 0), some (vI r_33), none, none]) dX11_nextBack_50 (by decide) rfl rfl rfl ?_
            refine kx_iload 54 F 7 dX11_nextBack_52 rfl rfl ?_
            refine kx_if_ne 57 F 67 dX11_nextBack_54 (by decide) rfl (by omega) (fun h_36 => ?_) (fun h_36 => (by exfalso; omega))
            refine kx_iload 69 F 7 dX11_nextBack_67 rfl rfl ?_
            refine kx_if_eq 72 F 79 dX11_nextBack_69 (by decide) rfl (by omega) (fun h_37 => (by exfalso; omega)) (fun h_37 => ?_)
            refine kx_aload_n 73 F 0 dX11_nextBack_72 rfl rfl rfl ?_
            refine kx_iload 75 F 7 dX11_nextBack_73 rfl rfl ?_
            refine kx_Vi 78 (ci := 0) F (As := [vI r_33]) (st := []) vd_X11_110 (c_X11_refuse G l N_34 c0 r_33 hI_N_34 hk_c0 (by omega)) hk_c0 rfl rfl rfl ⟨by decide, by decide⟩ rfl rfl (Nat.le_of_ble_eq_true rfl) dX11_nextBack_75 rfl ?_
            intro r_38 N_39 q_40
            obtain ⟨hI_N_39, hG_N_39, q_40c⟩ := q_40
            have hF_N_39 : Fr f_c_X11_nextBack M N_39 := Fr.c hF_N_34 hG_N_39 rfl
            have hX_N_39 : XX N_39 := XX.fr hX_N_34 hI_N_34 hG_N_39 rfl
            subst q_40c
            exact kx_iret F hQ ⟨hI_N_39, hF_N_39, (by omega), hX_N_39⟩ dX11_nextBack_78
        · refine kx_if_ne 35 F 39 dX11_nextBack_32 (by decide) rfl (by omega) (fun h_41 => ?_) (fun h_41 => ?_)
          · refine kx_iconst 40 F dX11_nextBack_39 rfl ?_
            refine kx_istore 42 F 6 (lo' := [some (vR G c0), some (vI a1), some (vI a2), some (vI a3), some (vI a4), some (vI a5), some (vI 0), none, none, none]) dX11_nextBack_40 (by decide) rfl rfl rfl ?_
            refine kx_aload_n 43 F 0 dX11_nextBack_42 rfl rfl rfl ?_
            refine kx_iload 45 F 6 dX11_nextBack_43 rfl rfl ?_
            refine kx_iload_n 46 F 1 dX11_nextBack_45 rfl rfl rfl ?_
            refine kx_iload_n 47 F 2 dX11_nextBack_46 rfl rfl rfl ?_
            refine kx_Vi 50 (ci := 0) F (As := [vI 0, vI a1, vI a2]) (st := []) vd_X11_278 (c_X11_summaryRefusal G l M c0 0 a1 a2 hI_M hk_c0 (by omega) hX_M) hk_c0 rfl rfl rfl ⟨by decide, by decide⟩ rfl rfl (Nat.le_of_ble_eq_true rfl) dX11_nextBack_47 rfl ?_
            intro r_42 N_43 q_44
            obtain ⟨hI_N_43, hG_N_43, q_44c, hX_N_43⟩ := q_44
            have hF_N_43 : Fr f_c_X11_nextBack M N_43 := Fr.c hF_M hG_N_43 rfl
            rcases q_44c with q_44c | q_44c
            · exfalso; omega
            · refine kx_istore 52 F 7 (lo' := [some (vR G c0), some (vI a1), some (vI a2), some (vI a3), some (vI a4), some (vI a5), some (vI 0), some (vI r_42), none, none]) dX11_nextBack_50 (by decide) rfl rfl rfl ?_
              refine kx_iload 54 F 7 dX11_nextBack_52 rfl rfl ?_
              refine kx_if_ne 57 F 67 dX11_nextBack_54 (by decide) rfl (by omega) (fun h_45 => ?_) (fun h_45 => (by exfalso; omega))
              refine kx_iload 69 F 7 dX11_nextBack_67 rfl rfl ?_
              refine kx_if_eq 72 F 79 dX11_nextBack_69 (by decide) rfl (by omega) (fun h_46 => (by exfalso; omega)) (fun h_46 => ?_)
              refine kx_aload_n 73 F 0 dX11_nextBack_72 rfl rfl rfl ?_
              refine kx_iload 75 F 7 dX11_nextBack_73 rfl rfl ?_
              refine kx_Vi 78 (ci := 0) F (As := [vI r_42]) (st := []) vd_X11_110 (c_X11_refuse G l N_43 c0 r_42 hI_N_43 hk_c0 (by omega)) hk_c0 rfl rfl rfl ⟨by decide, by decide⟩ rfl rfl (Nat.le_of_ble_eq_true rfl) dX11_nextBack_75 rfl ?_
              intro r_47 N_48 q_49
              obtain ⟨hI_N_48, hG_N_48, q_49c⟩ := q_49
              have hF_N_48 : Fr f_c_X11_nextBack M N_48 := Fr.c hF_N_43 hG_N_48 rfl
              have hX_N_48 : XX N_48 := XX.fr hX_N_43 hI_N_43 hG_N_48 rfl
              subst q_49c
              exact kx_iret F hQ ⟨hI_N_48, hF_N_48, (by omega), hX_N_48⟩ dX11_nextBack_78
          · refine kx_iconst 36 F dX11_nextBack_35 rfl ?_
            refine kx_goto 40 F dX11_nextBack_36 (by decide) ?_
            refine kx_istore 42 F 6 (lo' := [some (vR G c0), some (vI a1), some (vI a2), some (vI a3), some (vI a4), some (vI a5), some (vI 1), none, none, none]) dX11_nextBack_40 (by decide) rfl rfl rfl ?_
            refine kx_aload_n 43 F 0 dX11_nextBack_42 rfl rfl rfl ?_
            refine kx_iload 45 F 6 dX11_nextBack_43 rfl rfl ?_
            refine kx_iload_n 46 F 1 dX11_nextBack_45 rfl rfl rfl ?_
            refine kx_iload_n 47 F 2 dX11_nextBack_46 rfl rfl rfl ?_
            refine kx_Vi 50 (ci := 0) F (As := [vI 1, vI a1, vI a2]) (st := []) vd_X11_278 (c_X11_summaryRefusal G l M c0 1 a1 a2 hI_M hk_c0 (by omega) hX_M) hk_c0 rfl rfl rfl ⟨by decide, by decide⟩ rfl rfl (Nat.le_of_ble_eq_true rfl) dX11_nextBack_47 rfl ?_
            intro r_50 N_51 q_52
            obtain ⟨hI_N_51, hG_N_51, q_52c, hX_N_51⟩ := q_52
            have hF_N_51 : Fr f_c_X11_nextBack M N_51 := Fr.c hF_M hG_N_51 rfl
            rcases q_52c with q_52c | q_52c
            · refine kx_istore 52 F 7 (lo' := [some (vR G c0), some (vI a1), some (vI a2), some (vI a3), some (vI a4), some (vI a5), some (vI 1), some (vI r_50), none, none]) dX11_nextBack_50 (by decide) rfl rfl rfl ?_
              refine kx_iload 54 F 7 dX11_nextBack_52 rfl rfl ?_
              refine kx_if_ne 57 F 67 dX11_nextBack_54 (by decide) rfl (by omega) (fun h_53 => (by exfalso; omega)) (fun h_53 => ?_)
              refine kx_aload_n 58 F 0 dX11_nextBack_57 rfl rfl rfl ?_
              refine kx_iconst 59 F dX11_nextBack_58 rfl ?_
              refine kx_iload_n 60 F 1 dX11_nextBack_59 rfl rfl rfl ?_
              refine kx_iload 62 F 4 dX11_nextBack_60 rfl rfl ?_
              refine kx_Vi 65 (ci := 0) F (As := [vI 1, vI a1, vI a4]) (st := []) vd_X11_278 (c_X11_summaryRefusal G l N_51 c0 1 a1 a4 hI_N_51 hk_c0 (by omega) hX_N_51) hk_c0 rfl rfl rfl ⟨by decide, by decide⟩ rfl rfl (Nat.le_of_ble_eq_true rfl) dX11_nextBack_62 rfl ?_
              intro r_54 N_55 q_56
              obtain ⟨hI_N_55, hG_N_55, q_56c, hX_N_55⟩ := q_56
              have hF_N_55 : Fr f_c_X11_nextBack M N_55 := Fr.c hF_N_51 hG_N_55 rfl
              rcases q_56c with q_56c | q_56c
              · refine kx_istore 67 F 7 (lo' := [some (vR G c0), some (vI a1), some (vI a2), some (vI a3), some (vI a4), some (vI a5), some (vI 1), some (vI r_54), none, none]) dX11_nextBack_65 (by decide) rfl rfl rfl ?_
                refine kx_iload 69 F 7 dX11_nextBack_67 rfl rfl ?_
                refine kx_if_eq 72 F 79 dX11_nextBack_69 (by decide) rfl (by omega) (fun h_57 => ?_) (fun h_57 => (by exfalso; omega))
                refine kx_aload_n 80 F 0 dX11_nextBack_79 rfl rfl rfl ?_
                refine kx_iload_n 81 F 1 dX11_nextBack_80 rfl rfl rfl ?_
                refine kx_Vr 84 (ci := 0) F (As := [vI a1]) (st := []) vd_X11_268 (c_X11_tableOf G l N_55 c0 a1 hI_N_55 hk_c0 (by omega) hX_N_55) hk_c0 rfl rfl rfl ⟨by decide, by decide⟩ rfl rfl (Nat.le_of_ble_eq_true rfl) dX11_nextBack_81 rfl ?_
                intro r_58 N_59 q_60
                obtain ⟨hI_N_59, hG_N_59, hk_61, hX_N_59⟩ := q_60
                have hF_N_59 : Fr f_c_X11_nextBack M N_59 := Fr.c hF_N_55 hG_N_59 rfl
                refine kx_astore 86 F 8 (lo' := [some (vR G c0), some (vI a1), some (vI a2), some (vI a3), some (vI a4), some (vI a5), some (vI 1), some (vI r_54), some (vR G r_58), none]) dX11_nextBack_84 (by decide) rfl rfl rfl ?_
                refine kx_aload_n 87 F 0 dX11_nextBack_86 rfl rfl rfl ?_
                refine kx_getr 90 F fl_X11_26 hk_c0 rfl rfl (j := 5) rfl dX11_nextBack_87 (v := (M c0 5)) (by rw [Fr.e hG_N_59 hk_c0 _ rfl, Fr.e hG_N_55 hk_c0 _ rfl, Fr.e hG_N_51 hk_c0 _ rfl]) rfl ?_
                refine kx_iload_n 91 F 1 dX11_nextBack_90 rfl rfl rfl ?_
                refine kx_Vr 94 (ci := 0) F (As := [vI a1]) (st := []) vd_X11_164 (c_X5_pick G l N_59 (M c0 5) a1 hI_N_59 hk_1 (by omega)) hk_1 rfl rfl rfl ⟨by decide, by decide⟩ rfl rfl (Nat.le_of_ble_eq_true rfl) dX11_nextBack_91 rfl ?_
                intro r_62 N_63 q_64
                obtain ⟨rfl, hk_65⟩ := q_64
                refine kx_iload 96 F 5 dX11_nextBack_94 rfl rfl ?_
                refine kx_iload_n 97 F 3 dX11_nextBack_96 rfl rfl rfl ?_
                refine kx_aload 99 F 8 dX11_nextBack_97 rfl rfl ?_
                refine kx_getr 102 F fl_X11_283 hk_61 rfl rfl (j := 3) rfl dX11_nextBack_99 (v := (M r_58 3)) (by rw [Fr.e hG_N_59 hk_61 _ rfl, Fr.e hG_N_55 hk_61 _ rfl, Fr.e hG_N_51 hk_61 _ rfl]) rfl ?_
                have hk_66 : kd (M r_58 3) = 23 := Inv.r hI_M hk_61 rfl 3 rfl rfl
                refine kx_iload_n 103 F 2 dX11_nextBack_102 rfl rfl rfl ?_
                refine kx_iald 104 F hk_66 rfl rfl (by omega) (by decide) dX11_nextBack_103 (v := (N_59 (M r_58 3) a2)) rfl rfl ?_
                have h_67 := Inv.g hI_N_59 hk_66 rfl a2 (a := 0) (b := 511) rfl rfl
                refine kx_Vi 107 (ci := 0) F (As := [vI a5, vI a3, vI (N_59 (M r_58 3) a2)]) (st := []) vd_X11_293 (c_X0_over G l N_59 r_62 a5 a3 (N_59 (M r_58 3) a2) hI_N_59 hk_65 (by omega)) hk_65 rfl rfl rfl ⟨by decide, by decide⟩ rfl rfl (Nat.le_of_ble_eq_true rfl) dX11_nextBack_104 rfl ?_
                intro r_68 N_69 q_70
                obtain ⟨rfl, q_70c⟩ := q_70
                refine kx_istore 109 F 9 (lo' := [some (vR G c0), some (vI a1), some (vI a2), some (vI a3), some (vI a4), some (vI a5), some (vI 1), some (vI r_54), some (vR G r_58), some (vI r_68)]) dX11_nextBack_107 (by decide) rfl rfl rfl ?_
                refine kx_aload_n 110 F 0 dX11_nextBack_109 rfl rfl rfl ?_
                refine kx_aload 112 F 8 dX11_nextBack_110 rfl rfl ?_
                refine kx_aload 114 F 8 dX11_nextBack_112 rfl rfl ?_
                refine kx_getr 117 F fl_X11_281 hk_61 rfl rfl (j := 2) rfl dX11_nextBack_114 (v := (M r_58 2)) (by rw [Fr.e hG_N_59 hk_61 _ rfl, Fr.e hG_N_55 hk_61 _ rfl, Fr.e hG_N_51 hk_61 _ rfl]) rfl ?_
                have hk_71 : kd (M r_58 2) = 22 := Inv.r hI_M hk_61 rfl 2 rfl rfl
                refine kx_iload 119 F 4 dX11_nextBack_117 rfl rfl ?_
                refine kx_iald 120 F hk_71 rfl rfl (by omega) (by decide) dX11_nextBack_119 (v := (N_59 (M r_58 2) a4)) rfl rfl ?_
                have h_72 := Inv.g hI_N_59 hk_71 rfl a4 (a := 0) (b := 7) rfl rfl
                refine kx_iload 122 F 9 dX11_nextBack_120 rfl rfl ?_
                refine kx_Si 125 F (As := [vI (N_59 (M r_58 2) a4), vI r_68]) (st := [vR G r_58, vR G c0]) sd_X11_296 (c_X2_image G l N_59 (N_59 (M r_58 2) a4) r_68 hI_N_59 (by omega)) ⟨by decide, by decide⟩ rfl rfl (Nat.le_of_ble_eq_true rfl) dX11_nextBack_122 rfl ?_
                intro r_73 N_74 q_75
                obtain ⟨rfl, q_75c⟩ := q_75
                refine kx_aload 127 F 8 dX11_nextBack_125 rfl rfl ?_
                refine kx_getr 130 F fl_X11_283 hk_61 rfl rfl (j := 3) rfl dX11_nextBack_127 (v := (M r_58 3)) (by rw [Fr.e hG_N_59 hk_61 _ rfl, Fr.e hG_N_55 hk_61 _ rfl, Fr.e hG_N_51 hk_61 _ rfl]) rfl ?_
                refine kx_iload 132 F 4 dX11_nextBack_130 rfl rfl ?_
                refine kx_iald 133 F hk_66 rfl rfl (by omega) (by decide) dX11_nextBack_132 (v := (N_59 (M r_58 3) a4)) rfl rfl ?_
                have h_76 := Inv.g hI_N_59 hk_66 rfl a4 (a := 0) (b := 511) rfl rfl
                refine kx_iload 135 F 9 dX11_nextBack_133 rfl rfl ?_
                refine kx_Si 138 F (As := [vI (N_59 (M r_58 3) a4), vI r_68]) (st := [vI r_73, vR G r_58, vR G c0]) sd_X11_301 (c_X2_compose G l N_59 (N_59 (M r_58 3) a4) r_68 hI_N_59 (by omega)) ⟨by decide, by decide⟩ rfl rfl (Nat.le_of_ble_eq_true rfl) dX11_nextBack_135 rfl ?_
                intro r_77 N_78 q_79
                obtain ⟨rfl, q_79c⟩ := q_79
                refine kx_Vi 141 (ci := 0) F (As := [vI r_73, vI r_77]) (st := [vR G c0]) vd_X11_304 (c_X7_find G l N_59 r_58 r_73 r_77 hI_N_59 hk_61 (by omega)) hk_61 rfl rfl rfl ⟨by decide, by decide⟩ rfl rfl (Nat.le_of_ble_eq_true rfl) dX11_nextBack_138 rfl ?_
                intro r_80 N_81 q_82
                obtain ⟨rfl, q_82c⟩ := q_82
                refine kx_Vi 144 (ci := 0) F (As := [vI r_80]) (st := []) vd_X11_145 (c_X11_answer G l N_59 c0 r_80 hI_N_59 hk_c0 (by omega)) hk_c0 rfl rfl rfl ⟨by decide, by decide⟩ rfl rfl (Nat.le_of_ble_eq_true rfl) dX11_nextBack_141 rfl ?_
                intro r_83 N_84 q_85
                obtain ⟨hI_N_84, hG_N_84, q_85c⟩ := q_85
                have hF_N_84 : Fr f_c_X11_nextBack M N_84 := Fr.c hF_N_59 hG_N_84 rfl
                have hX_N_84 : XX N_84 := XX.fr hX_N_59 hI_N_59 hG_N_84 rfl
                exact kx_iret F hQ ⟨hI_N_84, hF_N_84, (by omega), hX_N_84⟩ dX11_nextBack_144
              · refine kx_istore 67 F 7 (lo' := [some (vR G c0), some (vI a1), some (vI a2), some (vI a3), some (vI a4), some (vI a5), some (vI 1), some (vI r_54), none, none]) dX11_nextBack_65 (by decide) rfl rfl rfl ?_
                refine kx_iload 69 F 7 dX11_nextBack_67 rfl rfl ?_
                refine kx_if_eq 72 F 79 dX11_nextBack_69 (by decide) rfl (by omega) (fun h_86 => (by exfalso; omega)) (fun h_86 => ?_)
                refine kx_aload_n 73 F 0 dX11_nextBack_72 rfl rfl rfl ?_
                refine kx_iload 75 F 7 dX11_nextBack_73 rfl rfl ?_
                refine kx_Vi 78 (ci := 0) F (As := [vI r_54]) (st := []) vd_X11_110 (c_X11_refuse G l N_55 c0 r_54 hI_N_55 hk_c0 (by omega)) hk_c0 rfl rfl rfl ⟨by decide, by decide⟩ rfl rfl (Nat.le_of_ble_eq_true rfl) dX11_nextBack_75 rfl ?_
                intro r_87 N_88 q_89
                obtain ⟨hI_N_88, hG_N_88, q_89c⟩ := q_89
                have hF_N_88 : Fr f_c_X11_nextBack M N_88 := Fr.c hF_N_55 hG_N_88 rfl
                have hX_N_88 : XX N_88 := XX.fr hX_N_55 hI_N_55 hG_N_88 rfl
                subst q_89c
                exact kx_iret F hQ ⟨hI_N_88, hF_N_88, (by omega), hX_N_88⟩ dX11_nextBack_78
            · refine kx_istore 52 F 7 (lo' := [some (vR G c0), some (vI a1), some (vI a2), some (vI a3), some (vI a4), some (vI a5), some (vI 1), some (vI r_50), none, none]) dX11_nextBack_50 (by decide) rfl rfl rfl ?_
              refine kx_iload 54 F 7 dX11_nextBack_52 rfl rfl ?_
              refine kx_if_ne 57 F 67 dX11_nextBack_54 (by decide) rfl (by omega) (fun h_90 => ?_) (fun h_90 => (by exfalso; omega))
              refine kx_iload 69 F 7 dX11_nextBack_67 rfl rfl ?_
              refine kx_if_eq 72 F 79 dX11_nextBack_69 (by decide) rfl (by omega) (fun h_91 => (by exfalso; omega)) (fun h_91 => ?_)
              refine kx_aload_n 73 F 0 dX11_nextBack_72 rfl rfl rfl ?_
              refine kx_iload 75 F 7 dX11_nextBack_73 rfl rfl ?_
              refine kx_Vi 78 (ci := 0) F (As := [vI r_50]) (st := []) vd_X11_110 (c_X11_refuse G l N_51 c0 r_50 hI_N_51 hk_c0 (by omega)) hk_c0 rfl rfl rfl ⟨by decide, by decide⟩ rfl rfl (Nat.le_of_ble_eq_true rfl) dX11_nextBack_75 rfl ?_
              intro r_92 N_93 q_94
              obtain ⟨hI_N_93, hG_N_93, q_94c⟩ := q_94
              have hF_N_93 : Fr f_c_X11_nextBack M N_93 := Fr.c hF_N_51 hG_N_93 rfl
              have hX_N_93 : XX N_93 := XX.fr hX_N_51 hI_N_51 hG_N_93 rfl
              subst q_94c
              exact kx_iret F hQ ⟨hI_N_93, hF_N_93, (by omega), hX_N_93⟩ dX11_nextBack_78
  · refine kx_if_eq 11 F 39 dX11_nextBack_8 (by decide) rfl (by omega) (fun h_95 => ?_) (fun h_95 => (by exfalso; omega))
    refine kx_iconst 40 F dX11_nextBack_39 rfl ?_
    refine kx_istore 42 F 6 (lo' := [some (vR G c0), some (vI a1), some (vI a2), some (vI a3), some (vI a4), some (vI a5), some (vI 0), none, none, none]) dX11_nextBack_40 (by decide) rfl rfl rfl ?_
    refine kx_aload_n 43 F 0 dX11_nextBack_42 rfl rfl rfl ?_
    refine kx_iload 45 F 6 dX11_nextBack_43 rfl rfl ?_
    refine kx_iload_n 46 F 1 dX11_nextBack_45 rfl rfl rfl ?_
    refine kx_iload_n 47 F 2 dX11_nextBack_46 rfl rfl rfl ?_
    refine kx_Vi 50 (ci := 0) F (As := [vI 0, vI a1, vI a2]) (st := []) vd_X11_278 (c_X11_summaryRefusal G l M c0 0 a1 a2 hI_M hk_c0 (by omega) hX_M) hk_c0 rfl rfl rfl ⟨by decide, by decide⟩ rfl rfl (Nat.le_of_ble_eq_true rfl) dX11_nextBack_47 rfl ?_
    intro r_96 N_97 q_98
    obtain ⟨hI_N_97, hG_N_97, q_98c, hX_N_97⟩ := q_98
    have hF_N_97 : Fr f_c_X11_nextBack M N_97 := Fr.c hF_M hG_N_97 rfl
    rcases q_98c with q_98c | q_98c
    · exfalso; omega
    · refine kx_istore 52 F 7 (lo' := [some (vR G c0), some (vI a1), some (vI a2), some (vI a3), some (vI a4), some (vI a5), some (vI 0), some (vI r_96), none, none]) dX11_nextBack_50 (by decide) rfl rfl rfl ?_
      refine kx_iload 54 F 7 dX11_nextBack_52 rfl rfl ?_
      refine kx_if_ne 57 F 67 dX11_nextBack_54 (by decide) rfl (by omega) (fun h_99 => ?_) (fun h_99 => (by exfalso; omega))
      refine kx_iload 69 F 7 dX11_nextBack_67 rfl rfl ?_
      refine kx_if_eq 72 F 79 dX11_nextBack_69 (by decide) rfl (by omega) (fun h_100 => (by exfalso; omega)) (fun h_100 => ?_)
      refine kx_aload_n 73 F 0 dX11_nextBack_72 rfl rfl rfl ?_
      refine kx_iload 75 F 7 dX11_nextBack_73 rfl rfl ?_
      refine kx_Vi 78 (ci := 0) F (As := [vI r_96]) (st := []) vd_X11_110 (c_X11_refuse G l N_97 c0 r_96 hI_N_97 hk_c0 (by omega)) hk_c0 rfl rfl rfl ⟨by decide, by decide⟩ rfl rfl (Nat.le_of_ble_eq_true rfl) dX11_nextBack_75 rfl ?_
      intro r_101 N_102 q_103
      obtain ⟨hI_N_102, hG_N_102, q_103c⟩ := q_103
      have hF_N_102 : Fr f_c_X11_nextBack M N_102 := Fr.c hF_N_97 hG_N_102 rfl
      have hX_N_102 : XX N_102 := XX.fr hX_N_97 hI_N_97 hG_N_102 rfl
      subst q_103c
      exact kx_iret F hQ ⟨hI_N_102, hF_N_102, (by omega), hX_N_102⟩ dX11_nextBack_78
theorem dX11_reaches_0 : decode cX11_reaches 0 = .ok (.aload_n 0, 1) := by decide +kernel
theorem dX11_reaches_1 : decode cX11_reaches 1 = .ok (.getfield 26, 3) := by decide +kernel
theorem dX11_reaches_4 : decode cX11_reaches 4 = .ok (.iload_n 1, 1) := by decide +kernel
theorem dX11_reaches_5 : decode cX11_reaches 5 = .ok (.invokevirtual 163, 3) := by decide +kernel
theorem dX11_reaches_8 : decode cX11_reaches 8 = .ok (.ifCond .ne 9, 3) := by decide +kernel
theorem dX11_reaches_11 : decode cX11_reaches 11 = .ok (.aload_n 0, 1) := by decide +kernel
theorem dX11_reaches_12 : decode cX11_reaches 12 = .ok (.iconst 1, 1) := by decide +kernel
theorem dX11_reaches_13 : decode cX11_reaches 13 = .ok (.invokevirtual 110, 3) := by decide +kernel
theorem dX11_reaches_16 : decode cX11_reaches 16 = .ok (.ireturn, 1) := by decide +kernel
theorem dX11_reaches_17 : decode cX11_reaches 17 = .ok (.aload_n 0, 1) := by decide +kernel
theorem dX11_reaches_18 : decode cX11_reaches 18 = .ok (.getfield 26, 3) := by decide +kernel
theorem dX11_reaches_21 : decode cX11_reaches 21 = .ok (.iload_n 1, 1) := by decide +kernel
theorem dX11_reaches_22 : decode cX11_reaches 22 = .ok (.invokevirtual 164, 3) := by decide +kernel
theorem dX11_reaches_25 : decode cX11_reaches 25 = .ok (.astore_n 2, 1) := by decide +kernel
theorem dX11_reaches_26 : decode cX11_reaches 26 = .ok (.aload_n 0, 1) := by decide +kernel
theorem dX11_reaches_27 : decode cX11_reaches 27 = .ok (.aload_n 0, 1) := by decide +kernel
theorem dX11_reaches_28 : decode cX11_reaches 28 = .ok (.getfield 26, 3) := by decide +kernel
theorem dX11_reaches_31 : decode cX11_reaches 31 = .ok (.aload_n 2, 1) := by decide +kernel
theorem dX11_reaches_32 : decode cX11_reaches 32 = .ok (.aload_n 2, 1) := by decide +kernel
theorem dX11_reaches_33 : decode cX11_reaches 33 = .ok (.getfield 176, 3) := by decide +kernel
theorem dX11_reaches_36 : decode cX11_reaches 36 = .ok (.iconst 1, 1) := by decide +kernel
theorem dX11_reaches_37 : decode cX11_reaches 37 = .ok (.aload_n 0, 1) := by decide +kernel
theorem dX11_reaches_38 : decode cX11_reaches 38 = .ok (.getfield 26, 3) := by decide +kernel
theorem dX11_reaches_41 : decode cX11_reaches 41 = .ok (.aload_n 2, 1) := by decide +kernel
theorem dX11_reaches_42 : decode cX11_reaches 42 = .ok (.invokevirtual 309, 3) := by decide +kernel
theorem dX11_reaches_45 : decode cX11_reaches 45 = .ok (.invokevirtual 313, 3) := by decide +kernel
theorem dX11_reaches_48 : decode cX11_reaches 48 = .ok (.invokevirtual 145, 3) := by decide +kernel
theorem dX11_reaches_51 : decode cX11_reaches 51 = .ok (.ireturn, 1) := by decide +kernel
abbrev f_c_X11_reaches : List (Nat × Int) := [(62, 0)]
set_option maxHeartbeats 4000000 in
set_option maxRecDepth 100000 in
theorem c_X11_reaches (G : KG) (l : Launch) (M : Mem) (c0 : Int) (a1 : Int) (hI_M : Inv false M) (hk_c0 : kd c0 = 62) (hpre : -2147483648 ≤ a1 ∧ a1 ≤ 2147483647) : KC false G l yX11_reaches cX11_reaches 3 (some .int) (4, 98) [vR G c0, vI a1] M (fun A => kQi false G A (fun (r : Int) (N : Mem) => Inv false N ∧ Fr f_c_X11_reaches M N ∧ (r ≥ -1 ∧ r ≤ 7))) := by
  refine kx_met (lo := [some (vR G c0), some (vI a1), none]) (by decide) (Nat.le_of_ble_eq_true rfl) rfl ?_
  intro X F hQ
  have hF_M : Fr f_c_X11_reaches M M := Fr.rf _ _
  refine kx_aload_n 1 F 0 dX11_reaches_0 rfl rfl rfl ?_
  refine kx_getr 4 F fl_X11_26 hk_c0 rfl rfl (j := 5) rfl dX11_reaches_1 (v := (M c0 5)) rfl rfl ?_
  have hk_1 : kd (M c0 5) = 12 := Inv.r hI_M hk_c0 rfl 5 rfl rfl
  refine kx_iload_n 5 F 1 dX11_reaches_4 rfl rfl rfl ?_
  refine kx_Vi 8 (ci := 0) F (As := [vI a1]) (st := []) vd_X11_163 (c_X5_has G l M (M c0 5) a1 hI_M hk_1 (by omega)) hk_1 rfl rfl rfl ⟨by decide, by decide⟩ rfl rfl (Nat.le_of_ble_eq_true rfl) dX11_reaches_5 rfl ?_
  intro r_2 N_3 q_4
  obtain ⟨rfl, q_4c⟩ := q_4
  have h_5 := Inv.g hI_M hk_1 rfl 3 (a := 0) (b := 2) rfl rfl
  rcases q_4c with q_4c | q_4c
  · refine kx_if_ne 11 F 17 dX11_reaches_8 (by decide) rfl (by omega) (fun h_6 => ?_) (fun h_6 => (by exfalso; omega))
    refine kx_aload_n 18 F 0 dX11_reaches_17 rfl rfl rfl ?_
    refine kx_getr 21 F fl_X11_26 hk_c0 rfl rfl (j := 5) rfl dX11_reaches_18 (v := (M c0 5)) rfl rfl ?_
    refine kx_iload_n 22 F 1 dX11_reaches_21 rfl rfl rfl ?_
    refine kx_Vr 25 (ci := 0) F (As := [vI a1]) (st := []) vd_X11_164 (c_X5_pick G l M (M c0 5) a1 hI_M hk_1 (by omega)) hk_1 rfl rfl rfl ⟨by decide, by decide⟩ rfl rfl (Nat.le_of_ble_eq_true rfl) dX11_reaches_22 rfl ?_
    intro r_7 N_8 q_9
    obtain ⟨rfl, hk_10⟩ := q_9
    refine kx_astore_n 26 F 2 (lo' := [some (vR G c0), some (vI a1), some (vR G r_7)]) dX11_reaches_25 rfl (by decide) rfl rfl rfl ?_
    refine kx_aload_n 27 F 0 dX11_reaches_26 rfl rfl rfl ?_
    refine kx_aload_n 28 F 0 dX11_reaches_27 rfl rfl rfl ?_
    refine kx_getr 31 F fl_X11_26 hk_c0 rfl rfl (j := 5) rfl dX11_reaches_28 (v := (M c0 5)) rfl rfl ?_
    refine kx_aload_n 32 F 2 dX11_reaches_31 rfl rfl rfl ?_
    refine kx_aload_n 33 F 2 dX11_reaches_32 rfl rfl rfl ?_
    refine kx_geti 36 F fl_X11_176 hk_10 rfl rfl (j := 2) rfl dX11_reaches_33 (v := (M r_7 2)) rfl rfl ?_
    have h_11 := Inv.g hI_M hk_10 rfl 2 (a := 0) (b := 7) rfl rfl
    refine kx_iconst 37 F dX11_reaches_36 rfl ?_
    refine kx_aload_n 38 F 0 dX11_reaches_37 rfl rfl rfl ?_
    refine kx_getr 41 F fl_X11_26 hk_c0 rfl rfl (j := 5) rfl dX11_reaches_38 (v := (M c0 5)) rfl rfl ?_
    refine kx_aload_n 42 F 2 dX11_reaches_41 rfl rfl rfl ?_
    refine kx_Vi 45 (ci := 0) F (As := [vR G r_7]) (st := [vI 1, vI (M r_7 2), vR G r_7, vR G (M c0 5), vR G c0]) vd_X11_309 (c_X5_wellPairs G l M (M c0 5) r_7 hI_M hk_1 hk_10) hk_1 rfl rfl rfl ⟨by decide, by decide⟩ rfl rfl (Nat.le_of_ble_eq_true rfl) dX11_reaches_42 rfl ?_
    intro r_12 N_13 q_14
    obtain ⟨rfl, q_14c⟩ := q_14
    refine kx_Vi 48 (ci := 0) F (As := [vR G r_7, vI (M r_7 2), vI 1, vI r_12]) (st := [vR G c0]) vd_X11_313 (c_X5_reachable G l M (M c0 5) r_7 (M r_7 2) 1 r_12 hI_M hk_1 hk_10 (by omega)) hk_1 rfl rfl rfl ⟨by decide, by decide⟩ rfl rfl (Nat.le_of_ble_eq_true rfl) dX11_reaches_45 rfl ?_
    intro r_15 N_16 q_17
    obtain ⟨rfl, q_17c⟩ := q_17
    refine kx_Vi 51 (ci := 0) F (As := [vI r_15]) (st := []) vd_X11_145 (c_X11_answer G l M c0 r_15 hI_M hk_c0 (by omega)) hk_c0 rfl rfl rfl ⟨by decide, by decide⟩ rfl rfl (Nat.le_of_ble_eq_true rfl) dX11_reaches_48 rfl ?_
    intro r_18 N_19 q_20
    obtain ⟨hI_N_19, hG_N_19, q_20c⟩ := q_20
    have hF_N_19 : Fr f_c_X11_reaches M N_19 := Fr.c hF_M hG_N_19 rfl
    exact kx_iret F hQ ⟨hI_N_19, hF_N_19, (by omega)⟩ dX11_reaches_51
  · refine kx_if_ne 11 F 17 dX11_reaches_8 (by decide) rfl (by omega) (fun h_21 => (by exfalso; omega)) (fun h_21 => ?_)
    refine kx_aload_n 12 F 0 dX11_reaches_11 rfl rfl rfl ?_
    refine kx_iconst 13 F dX11_reaches_12 rfl ?_
    refine kx_Vi 16 (ci := 0) F (As := [vI 1]) (st := []) vd_X11_110 (c_X11_refuse G l M c0 1 hI_M hk_c0 (by omega)) hk_c0 rfl rfl rfl ⟨by decide, by decide⟩ rfl rfl (Nat.le_of_ble_eq_true rfl) dX11_reaches_13 rfl ?_
    intro r_22 N_23 q_24
    obtain ⟨hI_N_23, hG_N_23, q_24c⟩ := q_24
    have hF_N_23 : Fr f_c_X11_reaches M N_23 := Fr.c hF_M hG_N_23 rfl
    subst q_24c
    exact kx_iret F hQ ⟨hI_N_23, hF_N_23, (by omega)⟩ dX11_reaches_16
theorem dX11_shortest_0 : decode cX11_shortest 0 = .ok (.aload_n 0, 1) := by decide +kernel
theorem dX11_shortest_1 : decode cX11_shortest 1 = .ok (.getfield 26, 3) := by decide +kernel
theorem dX11_shortest_4 : decode cX11_shortest 4 = .ok (.iload_n 1, 1) := by decide +kernel
theorem dX11_shortest_5 : decode cX11_shortest 5 = .ok (.invokevirtual 163, 3) := by decide +kernel
theorem dX11_shortest_8 : decode cX11_shortest 8 = .ok (.ifCond .ne 9, 3) := by decide +kernel
theorem dX11_shortest_11 : decode cX11_shortest 11 = .ok (.aload_n 0, 1) := by decide +kernel
theorem dX11_shortest_12 : decode cX11_shortest 12 = .ok (.iconst 1, 1) := by decide +kernel
theorem dX11_shortest_13 : decode cX11_shortest 13 = .ok (.invokevirtual 110, 3) := by decide +kernel
theorem dX11_shortest_16 : decode cX11_shortest 16 = .ok (.ireturn, 1) := by decide +kernel
theorem dX11_shortest_17 : decode cX11_shortest 17 = .ok (.aload_n 0, 1) := by decide +kernel
theorem dX11_shortest_18 : decode cX11_shortest 18 = .ok (.aload_n 0, 1) := by decide +kernel
theorem dX11_shortest_19 : decode cX11_shortest 19 = .ok (.getfield 47, 3) := by decide +kernel
theorem dX11_shortest_22 : decode cX11_shortest 22 = .ok (.aload_n 0, 1) := by decide +kernel
theorem dX11_shortest_23 : decode cX11_shortest 23 = .ok (.getfield 26, 3) := by decide +kernel
theorem dX11_shortest_26 : decode cX11_shortest 26 = .ok (.iconst 0, 1) := by decide +kernel
theorem dX11_shortest_27 : decode cX11_shortest 27 = .ok (.iload_n 1, 1) := by decide +kernel
theorem dX11_shortest_28 : decode cX11_shortest 28 = .ok (.iload_n 1, 1) := by decide +kernel
theorem dX11_shortest_29 : decode cX11_shortest 29 = .ok (.invokevirtual 317, 3) := by decide +kernel
theorem dX11_shortest_32 : decode cX11_shortest 32 = .ok (.invokevirtual 321, 3) := by decide +kernel
theorem dX11_shortest_35 : decode cX11_shortest 35 = .ok (.ireturn, 1) := by decide +kernel
abbrev f_c_X11_shortest : List (Nat × Int) := [(26, 0), (27, -1), (28, -1), (29, -1), (30, -1), (31, 0), (32, -1), (33, -1), (34, -1), (35, -1), (36, 0), (37, -1), (38, -1), (39, -1), (40, -1), (41, 2), (41, 3), (41, 4), (41, 5), (41, 7), (41, 8), (41, 9), (41, 13), (42, -1), (43, -1), (44, -1), (45, -1), (46, -1), (62, 0)]
set_option maxHeartbeats 4000000 in
set_option maxRecDepth 100000 in
theorem c_X11_shortest (G : KG) (l : Launch) (M : Mem) (c0 : Int) (a1 : Int) (hI_M : Inv false M) (hk_c0 : kd c0 = 62) (hpre : -2147483648 ≤ a1 ∧ a1 ≤ 2147483647) (hX_M : XX M) : KC false G l yX11_shortest cX11_shortest 2 (some .int) (7, 173) [vR G c0, vI a1] M (fun A => kQi false G A (fun (r : Int) (N : Mem) => Inv false N ∧ Fr f_c_X11_shortest M N ∧ (r ≥ -1 ∧ r ≤ 1000000000) ∧ XX N)) := by
  refine kx_met (lo := [some (vR G c0), some (vI a1)]) (by decide) (Nat.le_of_ble_eq_true rfl) rfl ?_
  intro X F hQ
  have hF_M : Fr f_c_X11_shortest M M := Fr.rf _ _
  refine kx_aload_n 1 F 0 dX11_shortest_0 rfl rfl rfl ?_
  refine kx_getr 4 F fl_X11_26 hk_c0 rfl rfl (j := 5) rfl dX11_shortest_1 (v := (M c0 5)) rfl rfl ?_
  have hk_1 : kd (M c0 5) = 12 := Inv.r hI_M hk_c0 rfl 5 rfl rfl
  refine kx_iload_n 5 F 1 dX11_shortest_4 rfl rfl rfl ?_
  refine kx_Vi 8 (ci := 0) F (As := [vI a1]) (st := []) vd_X11_163 (c_X5_has G l M (M c0 5) a1 hI_M hk_1 (by omega)) hk_1 rfl rfl rfl ⟨by decide, by decide⟩ rfl rfl (Nat.le_of_ble_eq_true rfl) dX11_shortest_5 rfl ?_
  intro r_2 N_3 q_4
  obtain ⟨rfl, q_4c⟩ := q_4
  have h_5 := Inv.g hI_M hk_1 rfl 3 (a := 0) (b := 2) rfl rfl
  rcases q_4c with q_4c | q_4c
  · refine kx_if_ne 11 F 17 dX11_shortest_8 (by decide) rfl (by omega) (fun h_6 => ?_) (fun h_6 => (by exfalso; omega))
    refine kx_aload_n 18 F 0 dX11_shortest_17 rfl rfl rfl ?_
    refine kx_aload_n 19 F 0 dX11_shortest_18 rfl rfl rfl ?_
    refine kx_getr 22 F fl_X11_47 hk_c0 rfl rfl (j := 10) rfl dX11_shortest_19 (v := (M c0 10)) rfl rfl ?_
    have hk_7 : kd (M c0 10) = 41 := Inv.r hI_M hk_c0 rfl 10 rfl rfl
    refine kx_aload_n 23 F 0 dX11_shortest_22 rfl rfl rfl ?_
    refine kx_getr 26 F fl_X11_26 hk_c0 rfl rfl (j := 5) rfl dX11_shortest_23 (v := (M c0 5)) rfl rfl ?_
    refine kx_iconst 27 F dX11_shortest_26 rfl ?_
    refine kx_iload_n 28 F 1 dX11_shortest_27 rfl rfl rfl ?_
    refine kx_iload_n 29 F 1 dX11_shortest_28 rfl rfl rfl ?_
    refine kx_Vi 32 (ci := 0) F (As := [vR G (M c0 5), vI 0, vI a1, vI a1]) (st := [vR G c0]) vd_X11_317 (c_X4_slotOf G l M (M c0 10) (M c0 5) 0 a1 a1 hI_M hk_7 hk_1 (by omega) hX_M) hk_7 rfl rfl rfl ⟨by decide, by decide⟩ rfl rfl (Nat.le_of_ble_eq_true rfl) dX11_shortest_29 rfl ?_
    intro r_8 N_9 q_10
    obtain ⟨hI_N_9, hG_N_9, q_10c, hX_N_9⟩ := q_10
    have hF_N_9 : Fr f_c_X11_shortest M N_9 := Fr.c hF_M hG_N_9 rfl
    refine kx_Vi 35 (ci := 0) F (As := [vI r_8]) (st := []) vd_X11_321 (c_X11_tellLength G l N_9 c0 r_8 hI_N_9 hk_c0 (by omega)) hk_c0 rfl rfl rfl ⟨by decide, by decide⟩ rfl rfl (Nat.le_of_ble_eq_true rfl) dX11_shortest_32 rfl ?_
    intro r_11 N_12 q_13
    obtain ⟨hI_N_12, hG_N_12, q_13c⟩ := q_13
    have hF_N_12 : Fr f_c_X11_shortest M N_12 := Fr.c hF_N_9 hG_N_12 rfl
    have hX_N_12 : XX N_12 := XX.fr hX_N_9 hI_N_9 hG_N_12 rfl
    exact kx_iret F hQ ⟨hI_N_12, hF_N_12, (by omega), hX_N_12⟩ dX11_shortest_35
  · refine kx_if_ne 11 F 17 dX11_shortest_8 (by decide) rfl (by omega) (fun h_14 => (by exfalso; omega)) (fun h_14 => ?_)
    refine kx_aload_n 12 F 0 dX11_shortest_11 rfl rfl rfl ?_
    refine kx_iconst 13 F dX11_shortest_12 rfl ?_
    refine kx_Vi 16 (ci := 0) F (As := [vI 1]) (st := []) vd_X11_110 (c_X11_refuse G l M c0 1 hI_M hk_c0 (by omega)) hk_c0 rfl rfl rfl ⟨by decide, by decide⟩ rfl rfl (Nat.le_of_ble_eq_true rfl) dX11_shortest_13 rfl ?_
    intro r_15 N_16 q_17
    obtain ⟨hI_N_16, hG_N_16, q_17c⟩ := q_17
    have hF_N_16 : Fr f_c_X11_shortest M N_16 := Fr.c hF_M hG_N_16 rfl
    have hX_N_16 : XX N_16 := XX.fr hX_M hI_M hG_N_16 rfl
    subst q_17c
    exact kx_iret F hQ ⟨hI_N_16, hF_N_16, (by omega), hX_N_16⟩ dX11_shortest_16
theorem dX11_shortestAt_0 : decode cX11_shortestAt 0 = .ok (.aload_n 0, 1) := by decide +kernel
theorem dX11_shortestAt_1 : decode cX11_shortestAt 1 = .ok (.getfield 26, 3) := by decide +kernel
theorem dX11_shortestAt_4 : decode cX11_shortestAt 4 = .ok (.iload_n 1, 1) := by decide +kernel
theorem dX11_shortestAt_5 : decode cX11_shortestAt 5 = .ok (.invokevirtual 163, 3) := by decide +kernel
theorem dX11_shortestAt_8 : decode cX11_shortestAt 8 = .ok (.ifCond .eq 7, 3) := by decide +kernel
theorem dX11_shortestAt_11 : decode cX11_shortestAt 11 = .ok (.iload_n 2, 1) := by decide +kernel
theorem dX11_shortestAt_12 : decode cX11_shortestAt 12 = .ok (.ifCond .ge 9, 3) := by decide +kernel
theorem dX11_shortestAt_15 : decode cX11_shortestAt 15 = .ok (.aload_n 0, 1) := by decide +kernel
theorem dX11_shortestAt_16 : decode cX11_shortestAt 16 = .ok (.iconst 1, 1) := by decide +kernel
theorem dX11_shortestAt_17 : decode cX11_shortestAt 17 = .ok (.invokevirtual 110, 3) := by decide +kernel
theorem dX11_shortestAt_20 : decode cX11_shortestAt 20 = .ok (.ireturn, 1) := by decide +kernel
theorem dX11_shortestAt_21 : decode cX11_shortestAt 21 = .ok (.aload_n 0, 1) := by decide +kernel
theorem dX11_shortestAt_22 : decode cX11_shortestAt 22 = .ok (.aload_n 0, 1) := by decide +kernel
theorem dX11_shortestAt_23 : decode cX11_shortestAt 23 = .ok (.getfield 47, 3) := by decide +kernel
theorem dX11_shortestAt_26 : decode cX11_shortestAt 26 = .ok (.aload_n 0, 1) := by decide +kernel
theorem dX11_shortestAt_27 : decode cX11_shortestAt 27 = .ok (.getfield 26, 3) := by decide +kernel
theorem dX11_shortestAt_30 : decode cX11_shortestAt 30 = .ok (.iconst 0, 1) := by decide +kernel
theorem dX11_shortestAt_31 : decode cX11_shortestAt 31 = .ok (.iload_n 1, 1) := by decide +kernel
theorem dX11_shortestAt_32 : decode cX11_shortestAt 32 = .ok (.iload_n 1, 1) := by decide +kernel
theorem dX11_shortestAt_33 : decode cX11_shortestAt 33 = .ok (.invokevirtual 317, 3) := by decide +kernel
theorem dX11_shortestAt_36 : decode cX11_shortestAt 36 = .ok (.iload_n 2, 1) := by decide +kernel
theorem dX11_shortestAt_37 : decode cX11_shortestAt 37 = .ok (.invokevirtual 324, 3) := by decide +kernel
theorem dX11_shortestAt_40 : decode cX11_shortestAt 40 = .ok (.ireturn, 1) := by decide +kernel
abbrev f_c_X11_shortestAt : List (Nat × Int) := [(26, 0), (27, -1), (28, -1), (29, -1), (30, -1), (31, 0), (32, -1), (33, -1), (34, -1), (35, -1), (36, 0), (37, -1), (38, -1), (39, -1), (40, -1), (41, 2), (41, 3), (41, 4), (41, 5), (41, 7), (41, 8), (41, 9), (41, 13), (42, -1), (43, -1), (44, -1), (45, -1), (46, -1), (62, 0)]
set_option maxHeartbeats 4000000 in
set_option maxRecDepth 100000 in
theorem c_X11_shortestAt (G : KG) (l : Launch) (M : Mem) (c0 : Int) (a1 : Int) (a2 : Int) (hI_M : Inv false M) (hk_c0 : kd c0 = 62) (hpre : -2147483648 ≤ a1 ∧ a1 ≤ 2147483647 ∧ -2147483648 ≤ a2 ∧ a2 ≤ 2147483647) (hX_M : XX M) : KC false G l yX11_shortestAt cX11_shortestAt 3 (some .int) (7, 173) [vR G c0, vI a1, vI a2] M (fun A => kQi false G A (fun (r : Int) (N : Mem) => Inv false N ∧ Fr f_c_X11_shortestAt M N ∧ (r ≥ -2147483646 ∧ r ≤ 2147483646) ∧ XX N)) := by
  refine kx_met (lo := [some (vR G c0), some (vI a1), some (vI a2)]) (by decide) (Nat.le_of_ble_eq_true rfl) rfl ?_
  intro X F hQ
  have hF_M : Fr f_c_X11_shortestAt M M := Fr.rf _ _
  refine kx_aload_n 1 F 0 dX11_shortestAt_0 rfl rfl rfl ?_
  refine kx_getr 4 F fl_X11_26 hk_c0 rfl rfl (j := 5) rfl dX11_shortestAt_1 (v := (M c0 5)) rfl rfl ?_
  have hk_1 : kd (M c0 5) = 12 := Inv.r hI_M hk_c0 rfl 5 rfl rfl
  refine kx_iload_n 5 F 1 dX11_shortestAt_4 rfl rfl rfl ?_
  refine kx_Vi 8 (ci := 0) F (As := [vI a1]) (st := []) vd_X11_163 (c_X5_has G l M (M c0 5) a1 hI_M hk_1 (by omega)) hk_1 rfl rfl rfl ⟨by decide, by decide⟩ rfl rfl (Nat.le_of_ble_eq_true rfl) dX11_shortestAt_5 rfl ?_
  intro r_2 N_3 q_4
  obtain ⟨rfl, q_4c⟩ := q_4
  have h_5 := Inv.g hI_M hk_1 rfl 3 (a := 0) (b := 2) rfl rfl
  rcases q_4c with q_4c | q_4c
  · refine kx_if_eq 11 F 15 dX11_shortestAt_8 (by decide) rfl (by omega) (fun h_6 => (by exfalso; omega)) (fun h_6 => ?_)
    refine kx_iload_n 12 F 2 dX11_shortestAt_11 rfl rfl rfl ?_
    refine kx_if_ge 15 F 21 dX11_shortestAt_12 (by decide) rfl (by omega) (fun h_7 => ?_) (fun h_7 => ?_)
    · refine kx_aload_n 22 F 0 dX11_shortestAt_21 rfl rfl rfl ?_
      refine kx_aload_n 23 F 0 dX11_shortestAt_22 rfl rfl rfl ?_
      refine kx_getr 26 F fl_X11_47 hk_c0 rfl rfl (j := 10) rfl dX11_shortestAt_23 (v := (M c0 10)) rfl rfl ?_
      have hk_8 : kd (M c0 10) = 41 := Inv.r hI_M hk_c0 rfl 10 rfl rfl
      refine kx_aload_n 27 F 0 dX11_shortestAt_26 rfl rfl rfl ?_
      refine kx_getr 30 F fl_X11_26 hk_c0 rfl rfl (j := 5) rfl dX11_shortestAt_27 (v := (M c0 5)) rfl rfl ?_
      refine kx_iconst 31 F dX11_shortestAt_30 rfl ?_
      refine kx_iload_n 32 F 1 dX11_shortestAt_31 rfl rfl rfl ?_
      refine kx_iload_n 33 F 1 dX11_shortestAt_32 rfl rfl rfl ?_
      refine kx_Vi 36 (ci := 0) F (As := [vR G (M c0 5), vI 0, vI a1, vI a1]) (st := [vR G c0]) vd_X11_317 (c_X4_slotOf G l M (M c0 10) (M c0 5) 0 a1 a1 hI_M hk_8 hk_1 (by omega) hX_M) hk_8 rfl rfl rfl ⟨by decide, by decide⟩ rfl rfl (Nat.le_of_ble_eq_true rfl) dX11_shortestAt_33 rfl ?_
      intro r_9 N_10 q_11
      obtain ⟨hI_N_10, hG_N_10, q_11c, hX_N_10⟩ := q_11
      have hF_N_10 : Fr f_c_X11_shortestAt M N_10 := Fr.c hF_M hG_N_10 rfl
      refine kx_iload_n 37 F 2 dX11_shortestAt_36 rfl rfl rfl ?_
      refine kx_Vi 40 (ci := 0) F (As := [vI r_9, vI a2]) (st := []) vd_X11_324 (c_X11_tellLetter G l N_10 c0 r_9 a2 hI_N_10 hk_c0 (by omega)) hk_c0 rfl rfl rfl ⟨by decide, by decide⟩ rfl rfl (Nat.le_of_ble_eq_true rfl) dX11_shortestAt_37 rfl ?_
      intro r_12 N_13 q_14
      obtain ⟨hI_N_13, hG_N_13, q_14c⟩ := q_14
      have hF_N_13 : Fr f_c_X11_shortestAt M N_13 := Fr.c hF_N_10 hG_N_13 rfl
      have hX_N_13 : XX N_13 := XX.fr hX_N_10 hI_N_10 hG_N_13 rfl
      exact kx_iret F hQ ⟨hI_N_13, hF_N_13, (by omega), hX_N_13⟩ dX11_shortestAt_40
    · refine kx_aload_n 16 F 0 dX11_shortestAt_15 rfl rfl rfl ?_
      refine kx_iconst 17 F dX11_shortestAt_16 rfl ?_
      refine kx_Vi 20 (ci := 0) F (As := [vI 1]) (st := []) vd_X11_110 (c_X11_refuse G l M c0 1 hI_M hk_c0 (by omega)) hk_c0 rfl rfl rfl ⟨by decide, by decide⟩ rfl rfl (Nat.le_of_ble_eq_true rfl) dX11_shortestAt_17 rfl ?_
      intro r_15 N_16 q_17
      obtain ⟨hI_N_16, hG_N_16, q_17c⟩ := q_17
      have hF_N_16 : Fr f_c_X11_shortestAt M N_16 := Fr.c hF_M hG_N_16 rfl
      have hX_N_16 : XX N_16 := XX.fr hX_M hI_M hG_N_16 rfl
      subst q_17c
      exact kx_iret F hQ ⟨hI_N_16, hF_N_16, (by omega), hX_N_16⟩ dX11_shortestAt_20
  · refine kx_if_eq 11 F 15 dX11_shortestAt_8 (by decide) rfl (by omega) (fun h_18 => ?_) (fun h_18 => (by exfalso; omega))
    refine kx_aload_n 16 F 0 dX11_shortestAt_15 rfl rfl rfl ?_
    refine kx_iconst 17 F dX11_shortestAt_16 rfl ?_
    refine kx_Vi 20 (ci := 0) F (As := [vI 1]) (st := []) vd_X11_110 (c_X11_refuse G l M c0 1 hI_M hk_c0 (by omega)) hk_c0 rfl rfl rfl ⟨by decide, by decide⟩ rfl rfl (Nat.le_of_ble_eq_true rfl) dX11_shortestAt_17 rfl ?_
    intro r_19 N_20 q_21
    obtain ⟨hI_N_20, hG_N_20, q_21c⟩ := q_21
    have hF_N_20 : Fr f_c_X11_shortestAt M N_20 := Fr.c hF_M hG_N_20 rfl
    have hX_N_20 : XX N_20 := XX.fr hX_M hI_M hG_N_20 rfl
    subst q_21c
    exact kx_iret F hQ ⟨hI_N_20, hF_N_20, (by omega), hX_N_20⟩ dX11_shortestAt_20
theorem dX11_both_0 : decode cX11_both 0 = .ok (.aload_n 0, 1) := by decide +kernel
theorem dX11_both_1 : decode cX11_both 1 = .ok (.iload_n 1, 1) := by decide +kernel
theorem dX11_both_2 : decode cX11_both 2 = .ok (.iload_n 2, 1) := by decide +kernel
theorem dX11_both_3 : decode cX11_both 3 = .ok (.invokevirtual 219, 3) := by decide +kernel
theorem dX11_both_6 : decode cX11_both 6 = .ok (.ifCond .ne 9, 3) := by decide +kernel
theorem dX11_both_9 : decode cX11_both 9 = .ok (.aload_n 0, 1) := by decide +kernel
theorem dX11_both_10 : decode cX11_both 10 = .ok (.iconst 1, 1) := by decide +kernel
theorem dX11_both_11 : decode cX11_both 11 = .ok (.invokevirtual 110, 3) := by decide +kernel
theorem dX11_both_14 : decode cX11_both 14 = .ok (.ireturn, 1) := by decide +kernel
theorem dX11_both_15 : decode cX11_both 15 = .ok (.aload_n 0, 1) := by decide +kernel
theorem dX11_both_16 : decode cX11_both 16 = .ok (.aload_n 0, 1) := by decide +kernel
theorem dX11_both_17 : decode cX11_both 17 = .ok (.getfield 47, 3) := by decide +kernel
theorem dX11_both_20 : decode cX11_both 20 = .ok (.aload_n 0, 1) := by decide +kernel
theorem dX11_both_21 : decode cX11_both 21 = .ok (.getfield 26, 3) := by decide +kernel
theorem dX11_both_24 : decode cX11_both 24 = .ok (.iconst 1, 1) := by decide +kernel
theorem dX11_both_25 : decode cX11_both 25 = .ok (.iload_n 1, 1) := by decide +kernel
theorem dX11_both_26 : decode cX11_both 26 = .ok (.iload_n 2, 1) := by decide +kernel
theorem dX11_both_27 : decode cX11_both 27 = .ok (.invokevirtual 317, 3) := by decide +kernel
theorem dX11_both_30 : decode cX11_both 30 = .ok (.invokevirtual 321, 3) := by decide +kernel
theorem dX11_both_33 : decode cX11_both 33 = .ok (.ireturn, 1) := by decide +kernel
abbrev f_c_X11_both : List (Nat × Int) := [(26, 0), (27, -1), (28, -1), (29, -1), (30, -1), (31, 0), (32, -1), (33, -1), (34, -1), (35, -1), (36, 0), (37, -1), (38, -1), (39, -1), (40, -1), (41, 2), (41, 3), (41, 4), (41, 5), (41, 7), (41, 8), (41, 9), (41, 13), (42, -1), (43, -1), (44, -1), (45, -1), (46, -1), (62, 0)]
set_option maxHeartbeats 4000000 in
set_option maxRecDepth 100000 in
theorem c_X11_both (G : KG) (l : Launch) (M : Mem) (c0 : Int) (a1 : Int) (a2 : Int) (hI_M : Inv false M) (hk_c0 : kd c0 = 62) (hpre : -2147483648 ≤ a1 ∧ a1 ≤ 2147483647 ∧ -2147483648 ≤ a2 ∧ a2 ≤ 2147483647) (hX_M : XX M) : KC false G l yX11_both cX11_both 3 (some .int) (7, 173) [vR G c0, vI a1, vI a2] M (fun A => kQi false G A (fun (r : Int) (N : Mem) => Inv false N ∧ Fr f_c_X11_both M N ∧ (r ≥ -1 ∧ r ≤ 1000000000) ∧ XX N)) := by
  refine kx_met (lo := [some (vR G c0), some (vI a1), some (vI a2)]) (by decide) (Nat.le_of_ble_eq_true rfl) rfl ?_
  intro X F hQ
  have hF_M : Fr f_c_X11_both M M := Fr.rf _ _
  refine kx_aload_n 1 F 0 dX11_both_0 rfl rfl rfl ?_
  refine kx_iload_n 2 F 1 dX11_both_1 rfl rfl rfl ?_
  refine kx_iload_n 3 F 2 dX11_both_2 rfl rfl rfl ?_
  refine kx_Vi 6 (ci := 0) F (As := [vI a1, vI a2]) (st := []) vd_X11_219 (c_X11_areTwo G l M c0 a1 a2 hI_M hk_c0 (by omega)) hk_c0 rfl rfl rfl ⟨by decide, by decide⟩ rfl rfl (Nat.le_of_ble_eq_true rfl) dX11_both_3 rfl ?_
  intro r_1 N_2 q_3
  obtain ⟨rfl, q_3c⟩ := q_3
  rcases q_3c with q_3c | q_3c
  · refine kx_if_ne 9 F 15 dX11_both_6 (by decide) rfl (by omega) (fun h_4 => ?_) (fun h_4 => (by exfalso; omega))
    refine kx_aload_n 16 F 0 dX11_both_15 rfl rfl rfl ?_
    refine kx_aload_n 17 F 0 dX11_both_16 rfl rfl rfl ?_
    refine kx_getr 20 F fl_X11_47 hk_c0 rfl rfl (j := 10) rfl dX11_both_17 (v := (M c0 10)) rfl rfl ?_
    have hk_5 : kd (M c0 10) = 41 := Inv.r hI_M hk_c0 rfl 10 rfl rfl
    refine kx_aload_n 21 F 0 dX11_both_20 rfl rfl rfl ?_
    refine kx_getr 24 F fl_X11_26 hk_c0 rfl rfl (j := 5) rfl dX11_both_21 (v := (M c0 5)) rfl rfl ?_
    have hk_6 : kd (M c0 5) = 12 := Inv.r hI_M hk_c0 rfl 5 rfl rfl
    refine kx_iconst 25 F dX11_both_24 rfl ?_
    refine kx_iload_n 26 F 1 dX11_both_25 rfl rfl rfl ?_
    refine kx_iload_n 27 F 2 dX11_both_26 rfl rfl rfl ?_
    refine kx_Vi 30 (ci := 0) F (As := [vR G (M c0 5), vI 1, vI a1, vI a2]) (st := [vR G c0]) vd_X11_317 (c_X4_slotOf G l M (M c0 10) (M c0 5) 1 a1 a2 hI_M hk_5 hk_6 (by omega) hX_M) hk_5 rfl rfl rfl ⟨by decide, by decide⟩ rfl rfl (Nat.le_of_ble_eq_true rfl) dX11_both_27 rfl ?_
    intro r_7 N_8 q_9
    obtain ⟨hI_N_8, hG_N_8, q_9c, hX_N_8⟩ := q_9
    have hF_N_8 : Fr f_c_X11_both M N_8 := Fr.c hF_M hG_N_8 rfl
    refine kx_Vi 33 (ci := 0) F (As := [vI r_7]) (st := []) vd_X11_321 (c_X11_tellLength G l N_8 c0 r_7 hI_N_8 hk_c0 (by omega)) hk_c0 rfl rfl rfl ⟨by decide, by decide⟩ rfl rfl (Nat.le_of_ble_eq_true rfl) dX11_both_30 rfl ?_
    intro r_10 N_11 q_12
    obtain ⟨hI_N_11, hG_N_11, q_12c⟩ := q_12
    have hF_N_11 : Fr f_c_X11_both M N_11 := Fr.c hF_N_8 hG_N_11 rfl
    have hX_N_11 : XX N_11 := XX.fr hX_N_8 hI_N_8 hG_N_11 rfl
    exact kx_iret F hQ ⟨hI_N_11, hF_N_11, (by omega), hX_N_11⟩ dX11_both_33
  · refine kx_if_ne 9 F 15 dX11_both_6 (by decide) rfl (by omega) (fun h_13 => (by exfalso; omega)) (fun h_13 => ?_)
    refine kx_aload_n 10 F 0 dX11_both_9 rfl rfl rfl ?_
    refine kx_iconst 11 F dX11_both_10 rfl ?_
    refine kx_Vi 14 (ci := 0) F (As := [vI 1]) (st := []) vd_X11_110 (c_X11_refuse G l M c0 1 hI_M hk_c0 (by omega)) hk_c0 rfl rfl rfl ⟨by decide, by decide⟩ rfl rfl (Nat.le_of_ble_eq_true rfl) dX11_both_11 rfl ?_
    intro r_14 N_15 q_16
    obtain ⟨hI_N_15, hG_N_15, q_16c⟩ := q_16
    have hF_N_15 : Fr f_c_X11_both M N_15 := Fr.c hF_M hG_N_15 rfl
    have hX_N_15 : XX N_15 := XX.fr hX_M hI_M hG_N_15 rfl
    subst q_16c
    exact kx_iret F hQ ⟨hI_N_15, hF_N_15, (by omega), hX_N_15⟩ dX11_both_14
theorem dX11_bothAt_0 : decode cX11_bothAt 0 = .ok (.aload_n 0, 1) := by decide +kernel
theorem dX11_bothAt_1 : decode cX11_bothAt 1 = .ok (.iload_n 1, 1) := by decide +kernel
theorem dX11_bothAt_2 : decode cX11_bothAt 2 = .ok (.iload_n 2, 1) := by decide +kernel
theorem dX11_bothAt_3 : decode cX11_bothAt 3 = .ok (.invokevirtual 219, 3) := by decide +kernel
theorem dX11_bothAt_6 : decode cX11_bothAt 6 = .ok (.ifCond .eq 7, 3) := by decide +kernel
theorem dX11_bothAt_9 : decode cX11_bothAt 9 = .ok (.iload_n 3, 1) := by decide +kernel
theorem dX11_bothAt_10 : decode cX11_bothAt 10 = .ok (.ifCond .ge 9, 3) := by decide +kernel
theorem dX11_bothAt_13 : decode cX11_bothAt 13 = .ok (.aload_n 0, 1) := by decide +kernel
theorem dX11_bothAt_14 : decode cX11_bothAt 14 = .ok (.iconst 1, 1) := by decide +kernel
theorem dX11_bothAt_15 : decode cX11_bothAt 15 = .ok (.invokevirtual 110, 3) := by decide +kernel
theorem dX11_bothAt_18 : decode cX11_bothAt 18 = .ok (.ireturn, 1) := by decide +kernel
theorem dX11_bothAt_19 : decode cX11_bothAt 19 = .ok (.aload_n 0, 1) := by decide +kernel
theorem dX11_bothAt_20 : decode cX11_bothAt 20 = .ok (.aload_n 0, 1) := by decide +kernel
theorem dX11_bothAt_21 : decode cX11_bothAt 21 = .ok (.getfield 47, 3) := by decide +kernel
theorem dX11_bothAt_24 : decode cX11_bothAt 24 = .ok (.aload_n 0, 1) := by decide +kernel
theorem dX11_bothAt_25 : decode cX11_bothAt 25 = .ok (.getfield 26, 3) := by decide +kernel
theorem dX11_bothAt_28 : decode cX11_bothAt 28 = .ok (.iconst 1, 1) := by decide +kernel
theorem dX11_bothAt_29 : decode cX11_bothAt 29 = .ok (.iload_n 1, 1) := by decide +kernel
theorem dX11_bothAt_30 : decode cX11_bothAt 30 = .ok (.iload_n 2, 1) := by decide +kernel
theorem dX11_bothAt_31 : decode cX11_bothAt 31 = .ok (.invokevirtual 317, 3) := by decide +kernel
theorem dX11_bothAt_34 : decode cX11_bothAt 34 = .ok (.iload_n 3, 1) := by decide +kernel
theorem dX11_bothAt_35 : decode cX11_bothAt 35 = .ok (.invokevirtual 324, 3) := by decide +kernel
theorem dX11_bothAt_38 : decode cX11_bothAt 38 = .ok (.ireturn, 1) := by decide +kernel
abbrev f_c_X11_bothAt : List (Nat × Int) := [(26, 0), (27, -1), (28, -1), (29, -1), (30, -1), (31, 0), (32, -1), (33, -1), (34, -1), (35, -1), (36, 0), (37, -1), (38, -1), (39, -1), (40, -1), (41, 2), (41, 3), (41, 4), (41, 5), (41, 7), (41, 8), (41, 9), (41, 13), (42, -1), (43, -1), (44, -1), (45, -1), (46, -1), (62, 0)]
set_option maxHeartbeats 4000000 in
set_option maxRecDepth 100000 in
theorem c_X11_bothAt (G : KG) (l : Launch) (M : Mem) (c0 : Int) (a1 : Int) (a2 : Int) (a3 : Int) (hI_M : Inv false M) (hk_c0 : kd c0 = 62) (hpre : -2147483648 ≤ a1 ∧ a1 ≤ 2147483647 ∧ -2147483648 ≤ a2 ∧ a2 ≤ 2147483647 ∧ -2147483648 ≤ a3 ∧ a3 ≤ 2147483647) (hX_M : XX M) : KC false G l yX11_bothAt cX11_bothAt 4 (some .int) (7, 173) [vR G c0, vI a1, vI a2, vI a3] M (fun A => kQi false G A (fun (r : Int) (N : Mem) => Inv false N ∧ Fr f_c_X11_bothAt M N ∧ (r ≥ -2147483646 ∧ r ≤ 2147483646) ∧ XX N)) := by
  refine kx_met (lo := [some (vR G c0), some (vI a1), some (vI a2), some (vI a3)]) (by decide) (Nat.le_of_ble_eq_true rfl) rfl ?_
  intro X F hQ
  have hF_M : Fr f_c_X11_bothAt M M := Fr.rf _ _
  refine kx_aload_n 1 F 0 dX11_bothAt_0 rfl rfl rfl ?_
  refine kx_iload_n 2 F 1 dX11_bothAt_1 rfl rfl rfl ?_
  refine kx_iload_n 3 F 2 dX11_bothAt_2 rfl rfl rfl ?_
  refine kx_Vi 6 (ci := 0) F (As := [vI a1, vI a2]) (st := []) vd_X11_219 (c_X11_areTwo G l M c0 a1 a2 hI_M hk_c0 (by omega)) hk_c0 rfl rfl rfl ⟨by decide, by decide⟩ rfl rfl (Nat.le_of_ble_eq_true rfl) dX11_bothAt_3 rfl ?_
  intro r_1 N_2 q_3
  obtain ⟨rfl, q_3c⟩ := q_3
  rcases q_3c with q_3c | q_3c
  · refine kx_if_eq 9 F 13 dX11_bothAt_6 (by decide) rfl (by omega) (fun h_4 => (by exfalso; omega)) (fun h_4 => ?_)
    refine kx_iload_n 10 F 3 dX11_bothAt_9 rfl rfl rfl ?_
    refine kx_if_ge 13 F 19 dX11_bothAt_10 (by decide) rfl (by omega) (fun h_5 => ?_) (fun h_5 => ?_)
    · refine kx_aload_n 20 F 0 dX11_bothAt_19 rfl rfl rfl ?_
      refine kx_aload_n 21 F 0 dX11_bothAt_20 rfl rfl rfl ?_
      refine kx_getr 24 F fl_X11_47 hk_c0 rfl rfl (j := 10) rfl dX11_bothAt_21 (v := (M c0 10)) rfl rfl ?_
      have hk_6 : kd (M c0 10) = 41 := Inv.r hI_M hk_c0 rfl 10 rfl rfl
      refine kx_aload_n 25 F 0 dX11_bothAt_24 rfl rfl rfl ?_
      refine kx_getr 28 F fl_X11_26 hk_c0 rfl rfl (j := 5) rfl dX11_bothAt_25 (v := (M c0 5)) rfl rfl ?_
      have hk_7 : kd (M c0 5) = 12 := Inv.r hI_M hk_c0 rfl 5 rfl rfl
      refine kx_iconst 29 F dX11_bothAt_28 rfl ?_
      refine kx_iload_n 30 F 1 dX11_bothAt_29 rfl rfl rfl ?_
      refine kx_iload_n 31 F 2 dX11_bothAt_30 rfl rfl rfl ?_
      refine kx_Vi 34 (ci := 0) F (As := [vR G (M c0 5), vI 1, vI a1, vI a2]) (st := [vR G c0]) vd_X11_317 (c_X4_slotOf G l M (M c0 10) (M c0 5) 1 a1 a2 hI_M hk_6 hk_7 (by omega) hX_M) hk_6 rfl rfl rfl ⟨by decide, by decide⟩ rfl rfl (Nat.le_of_ble_eq_true rfl) dX11_bothAt_31 rfl ?_
      intro r_8 N_9 q_10
      obtain ⟨hI_N_9, hG_N_9, q_10c, hX_N_9⟩ := q_10
      have hF_N_9 : Fr f_c_X11_bothAt M N_9 := Fr.c hF_M hG_N_9 rfl
      refine kx_iload_n 35 F 3 dX11_bothAt_34 rfl rfl rfl ?_
      refine kx_Vi 38 (ci := 0) F (As := [vI r_8, vI a3]) (st := []) vd_X11_324 (c_X11_tellLetter G l N_9 c0 r_8 a3 hI_N_9 hk_c0 (by omega)) hk_c0 rfl rfl rfl ⟨by decide, by decide⟩ rfl rfl (Nat.le_of_ble_eq_true rfl) dX11_bothAt_35 rfl ?_
      intro r_11 N_12 q_13
      obtain ⟨hI_N_12, hG_N_12, q_13c⟩ := q_13
      have hF_N_12 : Fr f_c_X11_bothAt M N_12 := Fr.c hF_N_9 hG_N_12 rfl
      have hX_N_12 : XX N_12 := XX.fr hX_N_9 hI_N_9 hG_N_12 rfl
      exact kx_iret F hQ ⟨hI_N_12, hF_N_12, (by omega), hX_N_12⟩ dX11_bothAt_38
    · refine kx_aload_n 14 F 0 dX11_bothAt_13 rfl rfl rfl ?_
      refine kx_iconst 15 F dX11_bothAt_14 rfl ?_
      refine kx_Vi 18 (ci := 0) F (As := [vI 1]) (st := []) vd_X11_110 (c_X11_refuse G l M c0 1 hI_M hk_c0 (by omega)) hk_c0 rfl rfl rfl ⟨by decide, by decide⟩ rfl rfl (Nat.le_of_ble_eq_true rfl) dX11_bothAt_15 rfl ?_
      intro r_14 N_15 q_16
      obtain ⟨hI_N_15, hG_N_15, q_16c⟩ := q_16
      have hF_N_15 : Fr f_c_X11_bothAt M N_15 := Fr.c hF_M hG_N_15 rfl
      have hX_N_15 : XX N_15 := XX.fr hX_M hI_M hG_N_15 rfl
      subst q_16c
      exact kx_iret F hQ ⟨hI_N_15, hF_N_15, (by omega), hX_N_15⟩ dX11_bothAt_18
  · refine kx_if_eq 9 F 13 dX11_bothAt_6 (by decide) rfl (by omega) (fun h_17 => ?_) (fun h_17 => (by exfalso; omega))
    refine kx_aload_n 14 F 0 dX11_bothAt_13 rfl rfl rfl ?_
    refine kx_iconst 15 F dX11_bothAt_14 rfl ?_
    refine kx_Vi 18 (ci := 0) F (As := [vI 1]) (st := []) vd_X11_110 (c_X11_refuse G l M c0 1 hI_M hk_c0 (by omega)) hk_c0 rfl rfl rfl ⟨by decide, by decide⟩ rfl rfl (Nat.le_of_ble_eq_true rfl) dX11_bothAt_15 rfl ?_
    intro r_18 N_19 q_20
    obtain ⟨hI_N_19, hG_N_19, q_20c⟩ := q_20
    have hF_N_19 : Fr f_c_X11_bothAt M N_19 := Fr.c hF_M hG_N_19 rfl
    have hX_N_19 : XX N_19 := XX.fr hX_M hI_M hG_N_19 rfl
    subst q_20c
    exact kx_iret F hQ ⟨hI_N_19, hF_N_19, (by omega), hX_N_19⟩ dX11_bothAt_18
theorem dX11_parting_0 : decode cX11_parting 0 = .ok (.aload_n 0, 1) := by decide +kernel
theorem dX11_parting_1 : decode cX11_parting 1 = .ok (.aload_n 0, 1) := by decide +kernel
theorem dX11_parting_2 : decode cX11_parting 2 = .ok (.iload_n 1, 1) := by decide +kernel
theorem dX11_parting_3 : decode cX11_parting 3 = .ok (.iload_n 2, 1) := by decide +kernel
theorem dX11_parting_4 : decode cX11_parting 4 = .ok (.invokevirtual 219, 3) := by decide +kernel
theorem dX11_parting_7 : decode cX11_parting 7 = .ok (.iload_n 2, 1) := by decide +kernel
theorem dX11_parting_8 : decode cX11_parting 8 = .ok (.invokevirtual 327, 3) := by decide +kernel
theorem dX11_parting_11 : decode cX11_parting 11 = .ok (.istore_n 3, 1) := by decide +kernel
theorem dX11_parting_12 : decode cX11_parting 12 = .ok (.iload_n 3, 1) := by decide +kernel
theorem dX11_parting_13 : decode cX11_parting 13 = .ok (.ifCond .eq 9, 3) := by decide +kernel
theorem dX11_parting_16 : decode cX11_parting 16 = .ok (.aload_n 0, 1) := by decide +kernel
theorem dX11_parting_17 : decode cX11_parting 17 = .ok (.iload_n 3, 1) := by decide +kernel
theorem dX11_parting_18 : decode cX11_parting 18 = .ok (.invokevirtual 110, 3) := by decide +kernel
theorem dX11_parting_21 : decode cX11_parting 21 = .ok (.ireturn, 1) := by decide +kernel
theorem dX11_parting_22 : decode cX11_parting 22 = .ok (.aload_n 0, 1) := by decide +kernel
theorem dX11_parting_23 : decode cX11_parting 23 = .ok (.aload_n 0, 1) := by decide +kernel
theorem dX11_parting_24 : decode cX11_parting 24 = .ok (.getfield 47, 3) := by decide +kernel
theorem dX11_parting_27 : decode cX11_parting 27 = .ok (.aload_n 0, 1) := by decide +kernel
theorem dX11_parting_28 : decode cX11_parting 28 = .ok (.getfield 26, 3) := by decide +kernel
theorem dX11_parting_31 : decode cX11_parting 31 = .ok (.iconst 2, 1) := by decide +kernel
theorem dX11_parting_32 : decode cX11_parting 32 = .ok (.iload_n 1, 1) := by decide +kernel
theorem dX11_parting_33 : decode cX11_parting 33 = .ok (.iload_n 2, 1) := by decide +kernel
theorem dX11_parting_34 : decode cX11_parting 34 = .ok (.invokevirtual 317, 3) := by decide +kernel
theorem dX11_parting_37 : decode cX11_parting 37 = .ok (.invokevirtual 321, 3) := by decide +kernel
theorem dX11_parting_40 : decode cX11_parting 40 = .ok (.ireturn, 1) := by decide +kernel
abbrev f_c_X11_parting : List (Nat × Int) := [(21, 0), (21, 1), (22, -1), (23, -1), (24, -1), (25, -1), (26, 0), (27, -1), (28, -1), (29, -1), (30, -1), (31, 0), (32, -1), (33, -1), (34, -1), (35, -1), (36, 0), (37, -1), (38, -1), (39, -1), (40, -1), (41, 2), (41, 3), (41, 4), (41, 5), (41, 7), (41, 8), (41, 9), (41, 13), (42, -1), (43, -1), (44, -1), (45, -1), (46, -1), (62, 0)]
set_option maxHeartbeats 4000000 in
set_option maxRecDepth 100000 in
theorem c_X11_parting (G : KG) (l : Launch) (M : Mem) (c0 : Int) (a1 : Int) (a2 : Int) (hI_M : Inv false M) (hk_c0 : kd c0 = 62) (hpre : -2147483648 ≤ a1 ∧ a1 ≤ 2147483647 ∧ -2147483648 ≤ a2 ∧ a2 ≤ 2147483647) (hX_M : XX M) : KC false G l yX11_parting cX11_parting 4 (some .int) (7, 173) [vR G c0, vI a1, vI a2] M (fun A => kQi false G A (fun (r : Int) (N : Mem) => Inv false N ∧ Fr f_c_X11_parting M N ∧ (r ≥ -1 ∧ r ≤ 1000000000) ∧ XX N)) := by
  refine kx_met (lo := [some (vR G c0), some (vI a1), some (vI a2), none]) (by decide) (Nat.le_of_ble_eq_true rfl) rfl ?_
  intro X F hQ
  have hF_M : Fr f_c_X11_parting M M := Fr.rf _ _
  refine kx_aload_n 1 F 0 dX11_parting_0 rfl rfl rfl ?_
  refine kx_aload_n 2 F 0 dX11_parting_1 rfl rfl rfl ?_
  refine kx_iload_n 3 F 1 dX11_parting_2 rfl rfl rfl ?_
  refine kx_iload_n 4 F 2 dX11_parting_3 rfl rfl rfl ?_
  refine kx_Vi 7 (ci := 0) F (As := [vI a1, vI a2]) (st := [vR G c0]) vd_X11_219 (c_X11_areTwo G l M c0 a1 a2 hI_M hk_c0 (by omega)) hk_c0 rfl rfl rfl ⟨by decide, by decide⟩ rfl rfl (Nat.le_of_ble_eq_true rfl) dX11_parting_4 rfl ?_
  intro r_1 N_2 q_3
  obtain ⟨rfl, q_3c⟩ := q_3
  rcases q_3c with q_3c | q_3c
  · refine kx_iload_n 8 F 2 dX11_parting_7 rfl rfl rfl ?_
    refine kx_Vi 11 (ci := 0) F (As := [vI r_1, vI a2]) (st := []) vd_X11_327 (c_X11_tableRefusal G l M c0 r_1 a2 hI_M hk_c0 (by omega) hX_M) hk_c0 rfl rfl rfl ⟨by decide, by decide⟩ rfl rfl (Nat.le_of_ble_eq_true rfl) dX11_parting_8 rfl ?_
    intro r_4 N_5 q_6
    obtain ⟨hI_N_5, hG_N_5, q_6c, hX_N_5⟩ := q_6
    have hF_N_5 : Fr f_c_X11_parting M N_5 := Fr.c hF_M hG_N_5 rfl
    rcases q_6c with q_6c | q_6c
    · refine kx_istore_n 12 F 3 (lo' := [some (vR G c0), some (vI a1), some (vI a2), some (vI r_4)]) dX11_parting_11 rfl (by decide) rfl rfl rfl ?_
      refine kx_iload_n 13 F 3 dX11_parting_12 rfl rfl rfl ?_
      refine kx_if_eq 16 F 22 dX11_parting_13 (by decide) rfl (by omega) (fun h_7 => ?_) (fun h_7 => (by exfalso; omega))
      refine kx_aload_n 23 F 0 dX11_parting_22 rfl rfl rfl ?_
      refine kx_aload_n 24 F 0 dX11_parting_23 rfl rfl rfl ?_
      refine kx_getr 27 F fl_X11_47 hk_c0 rfl rfl (j := 10) rfl dX11_parting_24 (v := (M c0 10)) (by rw [Fr.e hG_N_5 hk_c0 _ rfl]) rfl ?_
      have hk_8 : kd (M c0 10) = 41 := Inv.r hI_M hk_c0 rfl 10 rfl rfl
      refine kx_aload_n 28 F 0 dX11_parting_27 rfl rfl rfl ?_
      refine kx_getr 31 F fl_X11_26 hk_c0 rfl rfl (j := 5) rfl dX11_parting_28 (v := (M c0 5)) (by rw [Fr.e hG_N_5 hk_c0 _ rfl]) rfl ?_
      have hk_9 : kd (M c0 5) = 12 := Inv.r hI_M hk_c0 rfl 5 rfl rfl
      refine kx_iconst 32 F dX11_parting_31 rfl ?_
      refine kx_iload_n 33 F 1 dX11_parting_32 rfl rfl rfl ?_
      refine kx_iload_n 34 F 2 dX11_parting_33 rfl rfl rfl ?_
      refine kx_Vi 37 (ci := 0) F (As := [vR G (M c0 5), vI 2, vI a1, vI a2]) (st := [vR G c0]) vd_X11_317 (c_X4_slotOf G l N_5 (M c0 10) (M c0 5) 2 a1 a2 hI_N_5 hk_8 hk_9 (by omega) hX_N_5) hk_8 rfl rfl rfl ⟨by decide, by decide⟩ rfl rfl (Nat.le_of_ble_eq_true rfl) dX11_parting_34 rfl ?_
      intro r_10 N_11 q_12
      obtain ⟨hI_N_11, hG_N_11, q_12c, hX_N_11⟩ := q_12
      have hF_N_11 : Fr f_c_X11_parting M N_11 := Fr.c hF_N_5 hG_N_11 rfl
      refine kx_Vi 40 (ci := 0) F (As := [vI r_10]) (st := []) vd_X11_321 (c_X11_tellLength G l N_11 c0 r_10 hI_N_11 hk_c0 (by omega)) hk_c0 rfl rfl rfl ⟨by decide, by decide⟩ rfl rfl (Nat.le_of_ble_eq_true rfl) dX11_parting_37 rfl ?_
      intro r_13 N_14 q_15
      obtain ⟨hI_N_14, hG_N_14, q_15c⟩ := q_15
      have hF_N_14 : Fr f_c_X11_parting M N_14 := Fr.c hF_N_11 hG_N_14 rfl
      have hX_N_14 : XX N_14 := XX.fr hX_N_11 hI_N_11 hG_N_14 rfl
      exact kx_iret F hQ ⟨hI_N_14, hF_N_14, (by omega), hX_N_14⟩ dX11_parting_40
    · refine kx_istore_n 12 F 3 (lo' := [some (vR G c0), some (vI a1), some (vI a2), some (vI r_4)]) dX11_parting_11 rfl (by decide) rfl rfl rfl ?_
      refine kx_iload_n 13 F 3 dX11_parting_12 rfl rfl rfl ?_
      refine kx_if_eq 16 F 22 dX11_parting_13 (by decide) rfl (by omega) (fun h_16 => (by exfalso; omega)) (fun h_16 => ?_)
      refine kx_aload_n 17 F 0 dX11_parting_16 rfl rfl rfl ?_
      refine kx_iload_n 18 F 3 dX11_parting_17 rfl rfl rfl ?_
      refine kx_Vi 21 (ci := 0) F (As := [vI r_4]) (st := []) vd_X11_110 (c_X11_refuse G l N_5 c0 r_4 hI_N_5 hk_c0 (by omega)) hk_c0 rfl rfl rfl ⟨by decide, by decide⟩ rfl rfl (Nat.le_of_ble_eq_true rfl) dX11_parting_18 rfl ?_
      intro r_17 N_18 q_19
      obtain ⟨hI_N_18, hG_N_18, q_19c⟩ := q_19
      have hF_N_18 : Fr f_c_X11_parting M N_18 := Fr.c hF_N_5 hG_N_18 rfl
      have hX_N_18 : XX N_18 := XX.fr hX_N_5 hI_N_5 hG_N_18 rfl
      subst q_19c
      exact kx_iret F hQ ⟨hI_N_18, hF_N_18, (by omega), hX_N_18⟩ dX11_parting_21
  · refine kx_iload_n 8 F 2 dX11_parting_7 rfl rfl rfl ?_
    refine kx_Vi 11 (ci := 0) F (As := [vI r_1, vI a2]) (st := []) vd_X11_327 (c_X11_tableRefusal G l M c0 r_1 a2 hI_M hk_c0 (by omega) hX_M) hk_c0 rfl rfl rfl ⟨by decide, by decide⟩ rfl rfl (Nat.le_of_ble_eq_true rfl) dX11_parting_8 rfl ?_
    intro r_20 N_21 q_22
    obtain ⟨hI_N_21, hG_N_21, q_22c, hX_N_21⟩ := q_22
    have hF_N_21 : Fr f_c_X11_parting M N_21 := Fr.c hF_M hG_N_21 rfl
    rcases q_22c with q_22c | q_22c
    · refine kx_istore_n 12 F 3 (lo' := [some (vR G c0), some (vI a1), some (vI a2), some (vI r_20)]) dX11_parting_11 rfl (by decide) rfl rfl rfl ?_
      refine kx_iload_n 13 F 3 dX11_parting_12 rfl rfl rfl ?_
      refine kx_if_eq 16 F 22 dX11_parting_13 (by decide) rfl (by omega) (fun h_23 => ?_) (fun h_23 => (by exfalso; omega))
      refine kx_aload_n 23 F 0 dX11_parting_22 rfl rfl rfl ?_
      refine kx_aload_n 24 F 0 dX11_parting_23 rfl rfl rfl ?_
      refine kx_getr 27 F fl_X11_47 hk_c0 rfl rfl (j := 10) rfl dX11_parting_24 (v := (M c0 10)) (by rw [Fr.e hG_N_21 hk_c0 _ rfl]) rfl ?_
      have hk_24 : kd (M c0 10) = 41 := Inv.r hI_M hk_c0 rfl 10 rfl rfl
      refine kx_aload_n 28 F 0 dX11_parting_27 rfl rfl rfl ?_
      refine kx_getr 31 F fl_X11_26 hk_c0 rfl rfl (j := 5) rfl dX11_parting_28 (v := (M c0 5)) (by rw [Fr.e hG_N_21 hk_c0 _ rfl]) rfl ?_
      have hk_25 : kd (M c0 5) = 12 := Inv.r hI_M hk_c0 rfl 5 rfl rfl
      refine kx_iconst 32 F dX11_parting_31 rfl ?_
      refine kx_iload_n 33 F 1 dX11_parting_32 rfl rfl rfl ?_
      refine kx_iload_n 34 F 2 dX11_parting_33 rfl rfl rfl ?_
      refine kx_Vi 37 (ci := 0) F (As := [vR G (M c0 5), vI 2, vI a1, vI a2]) (st := [vR G c0]) vd_X11_317 (c_X4_slotOf G l N_21 (M c0 10) (M c0 5) 2 a1 a2 hI_N_21 hk_24 hk_25 (by omega) hX_N_21) hk_24 rfl rfl rfl ⟨by decide, by decide⟩ rfl rfl (Nat.le_of_ble_eq_true rfl) dX11_parting_34 rfl ?_
      intro r_26 N_27 q_28
      obtain ⟨hI_N_27, hG_N_27, q_28c, hX_N_27⟩ := q_28
      have hF_N_27 : Fr f_c_X11_parting M N_27 := Fr.c hF_N_21 hG_N_27 rfl
      refine kx_Vi 40 (ci := 0) F (As := [vI r_26]) (st := []) vd_X11_321 (c_X11_tellLength G l N_27 c0 r_26 hI_N_27 hk_c0 (by omega)) hk_c0 rfl rfl rfl ⟨by decide, by decide⟩ rfl rfl (Nat.le_of_ble_eq_true rfl) dX11_parting_37 rfl ?_
      intro r_29 N_30 q_31
      obtain ⟨hI_N_30, hG_N_30, q_31c⟩ := q_31
      have hF_N_30 : Fr f_c_X11_parting M N_30 := Fr.c hF_N_27 hG_N_30 rfl
      have hX_N_30 : XX N_30 := XX.fr hX_N_27 hI_N_27 hG_N_30 rfl
      exact kx_iret F hQ ⟨hI_N_30, hF_N_30, (by omega), hX_N_30⟩ dX11_parting_40
    · refine kx_istore_n 12 F 3 (lo' := [some (vR G c0), some (vI a1), some (vI a2), some (vI r_20)]) dX11_parting_11 rfl (by decide) rfl rfl rfl ?_
      refine kx_iload_n 13 F 3 dX11_parting_12 rfl rfl rfl ?_
      refine kx_if_eq 16 F 22 dX11_parting_13 (by decide) rfl (by omega) (fun h_32 => (by exfalso; omega)) (fun h_32 => ?_)
      refine kx_aload_n 17 F 0 dX11_parting_16 rfl rfl rfl ?_
      refine kx_iload_n 18 F 3 dX11_parting_17 rfl rfl rfl ?_
      refine kx_Vi 21 (ci := 0) F (As := [vI r_20]) (st := []) vd_X11_110 (c_X11_refuse G l N_21 c0 r_20 hI_N_21 hk_c0 (by omega)) hk_c0 rfl rfl rfl ⟨by decide, by decide⟩ rfl rfl (Nat.le_of_ble_eq_true rfl) dX11_parting_18 rfl ?_
      intro r_33 N_34 q_35
      obtain ⟨hI_N_34, hG_N_34, q_35c⟩ := q_35
      have hF_N_34 : Fr f_c_X11_parting M N_34 := Fr.c hF_N_21 hG_N_34 rfl
      have hX_N_34 : XX N_34 := XX.fr hX_N_21 hI_N_21 hG_N_34 rfl
      subst q_35c
      exact kx_iret F hQ ⟨hI_N_34, hF_N_34, (by omega), hX_N_34⟩ dX11_parting_21
theorem dX11_partingAt_0 : decode cX11_partingAt 0 = .ok (.aload_n 0, 1) := by decide +kernel
theorem dX11_partingAt_1 : decode cX11_partingAt 1 = .ok (.aload_n 0, 1) := by decide +kernel
theorem dX11_partingAt_2 : decode cX11_partingAt 2 = .ok (.iload_n 1, 1) := by decide +kernel
theorem dX11_partingAt_3 : decode cX11_partingAt 3 = .ok (.iload_n 2, 1) := by decide +kernel
theorem dX11_partingAt_4 : decode cX11_partingAt 4 = .ok (.invokevirtual 219, 3) := by decide +kernel
theorem dX11_partingAt_7 : decode cX11_partingAt 7 = .ok (.ifCond .eq 11, 3) := by decide +kernel
theorem dX11_partingAt_10 : decode cX11_partingAt 10 = .ok (.iload_n 3, 1) := by decide +kernel
theorem dX11_partingAt_11 : decode cX11_partingAt 11 = .ok (.ifCond .lt 7, 3) := by decide +kernel
theorem dX11_partingAt_14 : decode cX11_partingAt 14 = .ok (.iconst 1, 1) := by decide +kernel
theorem dX11_partingAt_15 : decode cX11_partingAt 15 = .ok (.goto 4, 3) := by decide +kernel
theorem dX11_partingAt_18 : decode cX11_partingAt 18 = .ok (.iconst 0, 1) := by decide +kernel
theorem dX11_partingAt_19 : decode cX11_partingAt 19 = .ok (.iload_n 2, 1) := by decide +kernel
theorem dX11_partingAt_20 : decode cX11_partingAt 20 = .ok (.invokevirtual 327, 3) := by decide +kernel
theorem dX11_partingAt_23 : decode cX11_partingAt 23 = .ok (.istore 4, 2) := by decide +kernel
theorem dX11_partingAt_25 : decode cX11_partingAt 25 = .ok (.iload 4, 2) := by decide +kernel
theorem dX11_partingAt_27 : decode cX11_partingAt 27 = .ok (.ifCond .eq 10, 3) := by decide +kernel
theorem dX11_partingAt_30 : decode cX11_partingAt 30 = .ok (.aload_n 0, 1) := by decide +kernel
theorem dX11_partingAt_31 : decode cX11_partingAt 31 = .ok (.iload 4, 2) := by decide +kernel
theorem dX11_partingAt_33 : decode cX11_partingAt 33 = .ok (.invokevirtual 110, 3) := by decide +kernel
theorem dX11_partingAt_36 : decode cX11_partingAt 36 = .ok (.ireturn, 1) := by decide +kernel
theorem dX11_partingAt_37 : decode cX11_partingAt 37 = .ok (.aload_n 0, 1) := by decide +kernel
theorem dX11_partingAt_38 : decode cX11_partingAt 38 = .ok (.aload_n 0, 1) := by decide +kernel
theorem dX11_partingAt_39 : decode cX11_partingAt 39 = .ok (.getfield 47, 3) := by decide +kernel
theorem dX11_partingAt_42 : decode cX11_partingAt 42 = .ok (.aload_n 0, 1) := by decide +kernel
theorem dX11_partingAt_43 : decode cX11_partingAt 43 = .ok (.getfield 26, 3) := by decide +kernel
theorem dX11_partingAt_46 : decode cX11_partingAt 46 = .ok (.iconst 2, 1) := by decide +kernel
theorem dX11_partingAt_47 : decode cX11_partingAt 47 = .ok (.iload_n 1, 1) := by decide +kernel
theorem dX11_partingAt_48 : decode cX11_partingAt 48 = .ok (.iload_n 2, 1) := by decide +kernel
theorem dX11_partingAt_49 : decode cX11_partingAt 49 = .ok (.invokevirtual 317, 3) := by decide +kernel
theorem dX11_partingAt_52 : decode cX11_partingAt 52 = .ok (.iload_n 3, 1) := by decide +kernel
theorem dX11_partingAt_53 : decode cX11_partingAt 53 = .ok (.invokevirtual 324, 3) := by decide +kernel
theorem dX11_partingAt_56 : decode cX11_partingAt 56 = .ok (.ireturn, 1) := by decide +kernel
abbrev f_c_X11_partingAt : List (Nat × Int) := [(21, 0), (21, 1), (22, -1), (23, -1), (24, -1), (25, -1), (26, 0), (27, -1), (28, -1), (29, -1), (30, -1), (31, 0), (32, -1), (33, -1), (34, -1), (35, -1), (36, 0), (37, -1), (38, -1), (39, -1), (40, -1), (41, 2), (41, 3), (41, 4), (41, 5), (41, 7), (41, 8), (41, 9), (41, 13), (42, -1), (43, -1), (44, -1), (45, -1), (46, -1), (62, 0)]
set_option maxHeartbeats 4000000 in
set_option maxRecDepth 100000 in
theorem c_X11_partingAt (G : KG) (l : Launch) (M : Mem) (c0 : Int) (a1 : Int) (a2 : Int) (a3 : Int) (hI_M : Inv false M) (hk_c0 : kd c0 = 62) (hpre : -2147483648 ≤ a1 ∧ a1 ≤ 2147483647 ∧ -2147483648 ≤ a2 ∧ a2 ≤ 2147483647 ∧ -2147483648 ≤ a3 ∧ a3 ≤ 2147483647) (hX_M : XX M) : KC false G l yX11_partingAt cX11_partingAt 5 (some .int) (7, 173) [vR G c0, vI a1, vI a2, vI a3] M (fun A => kQi false G A (fun (r : Int) (N : Mem) => Inv false N ∧ Fr f_c_X11_partingAt M N ∧ (r ≥ -2147483646 ∧ r ≤ 2147483646) ∧ XX N)) := by
  refine kx_met (lo := [some (vR G c0), some (vI a1), some (vI a2), some (vI a3), none]) (by decide) (Nat.le_of_ble_eq_true rfl) rfl ?_
  intro X F hQ
  have hF_M : Fr f_c_X11_partingAt M M := Fr.rf _ _
  refine kx_aload_n 1 F 0 dX11_partingAt_0 rfl rfl rfl ?_
  refine kx_aload_n 2 F 0 dX11_partingAt_1 rfl rfl rfl ?_
  refine kx_iload_n 3 F 1 dX11_partingAt_2 rfl rfl rfl ?_
  refine kx_iload_n 4 F 2 dX11_partingAt_3 rfl rfl rfl ?_
  refine kx_Vi 7 (ci := 0) F (As := [vI a1, vI a2]) (st := [vR G c0]) vd_X11_219 (c_X11_areTwo G l M c0 a1 a2 hI_M hk_c0 (by omega)) hk_c0 rfl rfl rfl ⟨by decide, by decide⟩ rfl rfl (Nat.le_of_ble_eq_true rfl) dX11_partingAt_4 rfl ?_
  intro r_1 N_2 q_3
  obtain ⟨rfl, q_3c⟩ := q_3
  rcases q_3c with q_3c | q_3c
  · have J_9 : ∀ (y0_8 : Int), 0 ≤ y0_8 ∧ y0_8 ≤ 1 → KJ false G X M 19 [some (vR G c0), some (vI a1), some (vI a2), some (vI a3), none] [vI y0_8, vR G c0] := by
      intro y0_8 h_10
      refine kx_iload_n 20 F 2 dX11_partingAt_19 rfl rfl rfl ?_
      refine kx_Vi 23 (ci := 0) F (As := [vI y0_8, vI a2]) (st := []) vd_X11_327 (c_X11_tableRefusal G l M c0 y0_8 a2 hI_M hk_c0 (by omega) hX_M) hk_c0 rfl rfl rfl ⟨by decide, by decide⟩ rfl rfl (Nat.le_of_ble_eq_true rfl) dX11_partingAt_20 rfl ?_
      intro r_11 N_12 q_13
      obtain ⟨hI_N_12, hG_N_12, q_13c, hX_N_12⟩ := q_13
      have hF_N_12 : Fr f_c_X11_partingAt M N_12 := Fr.c hF_M hG_N_12 rfl
      rcases q_13c with q_13c | q_13c
      · refine kx_istore 25 F 4 (lo' := [some (vR G c0), some (vI a1), some (vI a2), some (vI a3), some (vI r_11)]) dX11_partingAt_23 (by decide) rfl rfl rfl ?_
        refine kx_iload 27 F 4 dX11_partingAt_25 rfl rfl ?_
        refine kx_if_eq 30 F 37 dX11_partingAt_27 (by decide) rfl (by omega) (fun h_14 => ?_) (fun h_14 => (by exfalso; omega))
        refine kx_aload_n 38 F 0 dX11_partingAt_37 rfl rfl rfl ?_
        refine kx_aload_n 39 F 0 dX11_partingAt_38 rfl rfl rfl ?_
        refine kx_getr 42 F fl_X11_47 hk_c0 rfl rfl (j := 10) rfl dX11_partingAt_39 (v := (M c0 10)) (by rw [Fr.e hG_N_12 hk_c0 _ rfl]) rfl ?_
        have hk_15 : kd (M c0 10) = 41 := Inv.r hI_M hk_c0 rfl 10 rfl rfl
        refine kx_aload_n 43 F 0 dX11_partingAt_42 rfl rfl rfl ?_
        refine kx_getr 46 F fl_X11_26 hk_c0 rfl rfl (j := 5) rfl dX11_partingAt_43 (v := (M c0 5)) (by rw [Fr.e hG_N_12 hk_c0 _ rfl]) rfl ?_
        have hk_16 : kd (M c0 5) = 12 := Inv.r hI_M hk_c0 rfl 5 rfl rfl
        refine kx_iconst 47 F dX11_partingAt_46 rfl ?_
        refine kx_iload_n 48 F 1 dX11_partingAt_47 rfl rfl rfl ?_
        refine kx_iload_n 49 F 2 dX11_partingAt_48 rfl rfl rfl ?_
        refine kx_Vi 52 (ci := 0) F (As := [vR G (M c0 5), vI 2, vI a1, vI a2]) (st := [vR G c0]) vd_X11_317 (c_X4_slotOf G l N_12 (M c0 10) (M c0 5) 2 a1 a2 hI_N_12 hk_15 hk_16 (by omega) hX_N_12) hk_15 rfl rfl rfl ⟨by decide, by decide⟩ rfl rfl (Nat.le_of_ble_eq_true rfl) dX11_partingAt_49 rfl ?_
        intro r_17 N_18 q_19
        obtain ⟨hI_N_18, hG_N_18, q_19c, hX_N_18⟩ := q_19
        have hF_N_18 : Fr f_c_X11_partingAt M N_18 := Fr.c hF_N_12 hG_N_18 rfl
        refine kx_iload_n 53 F 3 dX11_partingAt_52 rfl rfl rfl ?_
        refine kx_Vi 56 (ci := 0) F (As := [vI r_17, vI a3]) (st := []) vd_X11_324 (c_X11_tellLetter G l N_18 c0 r_17 a3 hI_N_18 hk_c0 (by omega)) hk_c0 rfl rfl rfl ⟨by decide, by decide⟩ rfl rfl (Nat.le_of_ble_eq_true rfl) dX11_partingAt_53 rfl ?_
        intro r_20 N_21 q_22
        obtain ⟨hI_N_21, hG_N_21, q_22c⟩ := q_22
        have hF_N_21 : Fr f_c_X11_partingAt M N_21 := Fr.c hF_N_18 hG_N_21 rfl
        have hX_N_21 : XX N_21 := XX.fr hX_N_18 hI_N_18 hG_N_21 rfl
        exact kx_iret F hQ ⟨hI_N_21, hF_N_21, (by omega), hX_N_21⟩ dX11_partingAt_56
      · refine kx_istore 25 F 4 (lo' := [some (vR G c0), some (vI a1), some (vI a2), some (vI a3), some (vI r_11)]) dX11_partingAt_23 (by decide) rfl rfl rfl ?_
        refine kx_iload 27 F 4 dX11_partingAt_25 rfl rfl ?_
        refine kx_if_eq 30 F 37 dX11_partingAt_27 (by decide) rfl (by omega) (fun h_23 => (by exfalso; omega)) (fun h_23 => ?_)
        refine kx_aload_n 31 F 0 dX11_partingAt_30 rfl rfl rfl ?_
        refine kx_iload 33 F 4 dX11_partingAt_31 rfl rfl ?_
        refine kx_Vi 36 (ci := 0) F (As := [vI r_11]) (st := []) vd_X11_110 (c_X11_refuse G l N_12 c0 r_11 hI_N_12 hk_c0 (by omega)) hk_c0 rfl rfl rfl ⟨by decide, by decide⟩ rfl rfl (Nat.le_of_ble_eq_true rfl) dX11_partingAt_33 rfl ?_
        intro r_24 N_25 q_26
        obtain ⟨hI_N_25, hG_N_25, q_26c⟩ := q_26
        have hF_N_25 : Fr f_c_X11_partingAt M N_25 := Fr.c hF_N_12 hG_N_25 rfl
        have hX_N_25 : XX N_25 := XX.fr hX_N_12 hI_N_12 hG_N_25 rfl
        subst q_26c
        exact kx_iret F hQ ⟨hI_N_25, hF_N_25, (by omega), hX_N_25⟩ dX11_partingAt_36
    have J_45 : KJ false G X M 18 [some (vR G c0), some (vI a1), some (vI a2), some (vI a3), none] [vR G c0] := by
      refine kx_iconst 19 F dX11_partingAt_18 rfl ?_
      exact J_9 0 (by omega)
    refine kx_if_eq 10 F 18 dX11_partingAt_7 (by decide) rfl (by omega) (fun h_47 => (by exfalso; omega)) (fun h_47 => ?_)
    refine kx_iload_n 11 F 3 dX11_partingAt_10 rfl rfl rfl ?_
    refine kx_if_lt 14 F 18 dX11_partingAt_11 (by decide) rfl (by omega) (fun h_48 => ?_) (fun h_48 => ?_)
    · exact J_45
    · refine kx_iconst 15 F dX11_partingAt_14 rfl ?_
      refine kx_goto 19 F dX11_partingAt_15 (by decide) ?_
      exact J_9 1 (by omega)
  · have J_52 : ∀ (y0_51 : Int), 0 ≤ y0_51 ∧ y0_51 ≤ 0 → KJ false G X M 19 [some (vR G c0), some (vI a1), some (vI a2), some (vI a3), none] [vI y0_51, vR G c0] := by
      intro y0_51 h_53
      refine kx_iload_n 20 F 2 dX11_partingAt_19 rfl rfl rfl ?_
      refine kx_Vi 23 (ci := 0) F (As := [vI y0_51, vI a2]) (st := []) vd_X11_327 (c_X11_tableRefusal G l M c0 y0_51 a2 hI_M hk_c0 (by omega) hX_M) hk_c0 rfl rfl rfl ⟨by decide, by decide⟩ rfl rfl (Nat.le_of_ble_eq_true rfl) dX11_partingAt_20 rfl ?_
      intro r_54 N_55 q_56
      obtain ⟨hI_N_55, hG_N_55, q_56c, hX_N_55⟩ := q_56
      have hF_N_55 : Fr f_c_X11_partingAt M N_55 := Fr.c hF_M hG_N_55 rfl
      rcases q_56c with q_56c | q_56c
      · refine kx_istore 25 F 4 (lo' := [some (vR G c0), some (vI a1), some (vI a2), some (vI a3), some (vI r_54)]) dX11_partingAt_23 (by decide) rfl rfl rfl ?_
        refine kx_iload 27 F 4 dX11_partingAt_25 rfl rfl ?_
        refine kx_if_eq 30 F 37 dX11_partingAt_27 (by decide) rfl (by omega) (fun h_57 => ?_) (fun h_57 => (by exfalso; omega))
        refine kx_aload_n 38 F 0 dX11_partingAt_37 rfl rfl rfl ?_
        refine kx_aload_n 39 F 0 dX11_partingAt_38 rfl rfl rfl ?_
        refine kx_getr 42 F fl_X11_47 hk_c0 rfl rfl (j := 10) rfl dX11_partingAt_39 (v := (M c0 10)) (by rw [Fr.e hG_N_55 hk_c0 _ rfl]) rfl ?_
        have hk_58 : kd (M c0 10) = 41 := Inv.r hI_M hk_c0 rfl 10 rfl rfl
        refine kx_aload_n 43 F 0 dX11_partingAt_42 rfl rfl rfl ?_
        refine kx_getr 46 F fl_X11_26 hk_c0 rfl rfl (j := 5) rfl dX11_partingAt_43 (v := (M c0 5)) (by rw [Fr.e hG_N_55 hk_c0 _ rfl]) rfl ?_
        have hk_59 : kd (M c0 5) = 12 := Inv.r hI_M hk_c0 rfl 5 rfl rfl
        refine kx_iconst 47 F dX11_partingAt_46 rfl ?_
        refine kx_iload_n 48 F 1 dX11_partingAt_47 rfl rfl rfl ?_
        refine kx_iload_n 49 F 2 dX11_partingAt_48 rfl rfl rfl ?_
        refine kx_Vi 52 (ci := 0) F (As := [vR G (M c0 5), vI 2, vI a1, vI a2]) (st := [vR G c0]) vd_X11_317 (c_X4_slotOf G l N_55 (M c0 10) (M c0 5) 2 a1 a2 hI_N_55 hk_58 hk_59 (by omega) hX_N_55) hk_58 rfl rfl rfl ⟨by decide, by decide⟩ rfl rfl (Nat.le_of_ble_eq_true rfl) dX11_partingAt_49 rfl ?_
        intro r_60 N_61 q_62
        obtain ⟨hI_N_61, hG_N_61, q_62c, hX_N_61⟩ := q_62
        have hF_N_61 : Fr f_c_X11_partingAt M N_61 := Fr.c hF_N_55 hG_N_61 rfl
        refine kx_iload_n 53 F 3 dX11_partingAt_52 rfl rfl rfl ?_
        refine kx_Vi 56 (ci := 0) F (As := [vI r_60, vI a3]) (st := []) vd_X11_324 (c_X11_tellLetter G l N_61 c0 r_60 a3 hI_N_61 hk_c0 (by omega)) hk_c0 rfl rfl rfl ⟨by decide, by decide⟩ rfl rfl (Nat.le_of_ble_eq_true rfl) dX11_partingAt_53 rfl ?_
        intro r_63 N_64 q_65
        obtain ⟨hI_N_64, hG_N_64, q_65c⟩ := q_65
        have hF_N_64 : Fr f_c_X11_partingAt M N_64 := Fr.c hF_N_61 hG_N_64 rfl
        have hX_N_64 : XX N_64 := XX.fr hX_N_61 hI_N_61 hG_N_64 rfl
        exact kx_iret F hQ ⟨hI_N_64, hF_N_64, (by omega), hX_N_64⟩ dX11_partingAt_56
      · refine kx_istore 25 F 4 (lo' := [some (vR G c0), some (vI a1), some (vI a2), some (vI a3), some (vI r_54)]) dX11_partingAt_23 (by decide) rfl rfl rfl ?_
        refine kx_iload 27 F 4 dX11_partingAt_25 rfl rfl ?_
        refine kx_if_eq 30 F 37 dX11_partingAt_27 (by decide) rfl (by omega) (fun h_66 => (by exfalso; omega)) (fun h_66 => ?_)
        refine kx_aload_n 31 F 0 dX11_partingAt_30 rfl rfl rfl ?_
        refine kx_iload 33 F 4 dX11_partingAt_31 rfl rfl ?_
        refine kx_Vi 36 (ci := 0) F (As := [vI r_54]) (st := []) vd_X11_110 (c_X11_refuse G l N_55 c0 r_54 hI_N_55 hk_c0 (by omega)) hk_c0 rfl rfl rfl ⟨by decide, by decide⟩ rfl rfl (Nat.le_of_ble_eq_true rfl) dX11_partingAt_33 rfl ?_
        intro r_67 N_68 q_69
        obtain ⟨hI_N_68, hG_N_68, q_69c⟩ := q_69
        have hF_N_68 : Fr f_c_X11_partingAt M N_68 := Fr.c hF_N_55 hG_N_68 rfl
        have hX_N_68 : XX N_68 := XX.fr hX_N_55 hI_N_55 hG_N_68 rfl
        subst q_69c
        exact kx_iret F hQ ⟨hI_N_68, hF_N_68, (by omega), hX_N_68⟩ dX11_partingAt_36
    have J_71 : KJ false G X M 18 [some (vR G c0), some (vI a1), some (vI a2), some (vI a3), none] [vR G c0] := by
      refine kx_iconst 19 F dX11_partingAt_18 rfl ?_
      exact J_52 0 (by omega)
    refine kx_if_eq 10 F 18 dX11_partingAt_7 (by decide) rfl (by omega) (fun h_73 => ?_) (fun h_73 => (by exfalso; omega))
    exact J_71 
theorem dX11_missing_0 : decode cX11_missing 0 = .ok (.aload_n 0, 1) := by decide +kernel
theorem dX11_missing_1 : decode cX11_missing 1 = .ok (.aload_n 0, 1) := by decide +kernel
theorem dX11_missing_2 : decode cX11_missing 2 = .ok (.getfield 26, 3) := by decide +kernel
theorem dX11_missing_5 : decode cX11_missing 5 = .ok (.iload_n 1, 1) := by decide +kernel
theorem dX11_missing_6 : decode cX11_missing 6 = .ok (.invokevirtual 163, 3) := by decide +kernel
theorem dX11_missing_9 : decode cX11_missing 9 = .ok (.iload_n 1, 1) := by decide +kernel
theorem dX11_missing_10 : decode cX11_missing 10 = .ok (.invokevirtual 327, 3) := by decide +kernel
theorem dX11_missing_13 : decode cX11_missing 13 = .ok (.istore_n 2, 1) := by decide +kernel
theorem dX11_missing_14 : decode cX11_missing 14 = .ok (.iload_n 2, 1) := by decide +kernel
theorem dX11_missing_15 : decode cX11_missing 15 = .ok (.ifCond .eq 9, 3) := by decide +kernel
theorem dX11_missing_18 : decode cX11_missing 18 = .ok (.aload_n 0, 1) := by decide +kernel
theorem dX11_missing_19 : decode cX11_missing 19 = .ok (.iload_n 2, 1) := by decide +kernel
theorem dX11_missing_20 : decode cX11_missing 20 = .ok (.invokevirtual 110, 3) := by decide +kernel
theorem dX11_missing_23 : decode cX11_missing 23 = .ok (.ireturn, 1) := by decide +kernel
theorem dX11_missing_24 : decode cX11_missing 24 = .ok (.aload_n 0, 1) := by decide +kernel
theorem dX11_missing_25 : decode cX11_missing 25 = .ok (.aload_n 0, 1) := by decide +kernel
theorem dX11_missing_26 : decode cX11_missing 26 = .ok (.getfield 47, 3) := by decide +kernel
theorem dX11_missing_29 : decode cX11_missing 29 = .ok (.aload_n 0, 1) := by decide +kernel
theorem dX11_missing_30 : decode cX11_missing 30 = .ok (.getfield 26, 3) := by decide +kernel
theorem dX11_missing_33 : decode cX11_missing 33 = .ok (.iconst 3, 1) := by decide +kernel
theorem dX11_missing_34 : decode cX11_missing 34 = .ok (.iload_n 1, 1) := by decide +kernel
theorem dX11_missing_35 : decode cX11_missing 35 = .ok (.iload_n 1, 1) := by decide +kernel
theorem dX11_missing_36 : decode cX11_missing 36 = .ok (.invokevirtual 317, 3) := by decide +kernel
theorem dX11_missing_39 : decode cX11_missing 39 = .ok (.invokevirtual 321, 3) := by decide +kernel
theorem dX11_missing_42 : decode cX11_missing 42 = .ok (.ireturn, 1) := by decide +kernel
abbrev f_c_X11_missing : List (Nat × Int) := [(21, 0), (21, 1), (22, -1), (23, -1), (24, -1), (25, -1), (26, 0), (27, -1), (28, -1), (29, -1), (30, -1), (31, 0), (32, -1), (33, -1), (34, -1), (35, -1), (36, 0), (37, -1), (38, -1), (39, -1), (40, -1), (41, 2), (41, 3), (41, 4), (41, 5), (41, 7), (41, 8), (41, 9), (41, 13), (42, -1), (43, -1), (44, -1), (45, -1), (46, -1), (62, 0)]
set_option maxHeartbeats 4000000 in
set_option maxRecDepth 100000 in
theorem c_X11_missing (G : KG) (l : Launch) (M : Mem) (c0 : Int) (a1 : Int) (hI_M : Inv false M) (hk_c0 : kd c0 = 62) (hpre : -2147483648 ≤ a1 ∧ a1 ≤ 2147483647) (hX_M : XX M) : KC false G l yX11_missing cX11_missing 3 (some .int) (7, 173) [vR G c0, vI a1] M (fun A => kQi false G A (fun (r : Int) (N : Mem) => Inv false N ∧ Fr f_c_X11_missing M N ∧ (r ≥ -1 ∧ r ≤ 1000000000) ∧ XX N)) := by
  refine kx_met (lo := [some (vR G c0), some (vI a1), none]) (by decide) (Nat.le_of_ble_eq_true rfl) rfl ?_
  intro X F hQ
  have hF_M : Fr f_c_X11_missing M M := Fr.rf _ _
  refine kx_aload_n 1 F 0 dX11_missing_0 rfl rfl rfl ?_
  refine kx_aload_n 2 F 0 dX11_missing_1 rfl rfl rfl ?_
  refine kx_getr 5 F fl_X11_26 hk_c0 rfl rfl (j := 5) rfl dX11_missing_2 (v := (M c0 5)) rfl rfl ?_
  have hk_1 : kd (M c0 5) = 12 := Inv.r hI_M hk_c0 rfl 5 rfl rfl
  refine kx_iload_n 6 F 1 dX11_missing_5 rfl rfl rfl ?_
  refine kx_Vi 9 (ci := 0) F (As := [vI a1]) (st := [vR G c0]) vd_X11_163 (c_X5_has G l M (M c0 5) a1 hI_M hk_1 (by omega)) hk_1 rfl rfl rfl ⟨by decide, by decide⟩ rfl rfl (Nat.le_of_ble_eq_true rfl) dX11_missing_6 rfl ?_
  intro r_2 N_3 q_4
  obtain ⟨rfl, q_4c⟩ := q_4
  have h_5 := Inv.g hI_M hk_1 rfl 3 (a := 0) (b := 2) rfl rfl
  rcases q_4c with q_4c | q_4c
  · refine kx_iload_n 10 F 1 dX11_missing_9 rfl rfl rfl ?_
    refine kx_Vi 13 (ci := 0) F (As := [vI r_2, vI a1]) (st := []) vd_X11_327 (c_X11_tableRefusal G l M c0 r_2 a1 hI_M hk_c0 (by omega) hX_M) hk_c0 rfl rfl rfl ⟨by decide, by decide⟩ rfl rfl (Nat.le_of_ble_eq_true rfl) dX11_missing_10 rfl ?_
    intro r_6 N_7 q_8
    obtain ⟨hI_N_7, hG_N_7, q_8c, hX_N_7⟩ := q_8
    have hF_N_7 : Fr f_c_X11_missing M N_7 := Fr.c hF_M hG_N_7 rfl
    rcases q_8c with q_8c | q_8c
    · refine kx_istore_n 14 F 2 (lo' := [some (vR G c0), some (vI a1), some (vI r_6)]) dX11_missing_13 rfl (by decide) rfl rfl rfl ?_
      refine kx_iload_n 15 F 2 dX11_missing_14 rfl rfl rfl ?_
      refine kx_if_eq 18 F 24 dX11_missing_15 (by decide) rfl (by omega) (fun h_9 => ?_) (fun h_9 => (by exfalso; omega))
      refine kx_aload_n 25 F 0 dX11_missing_24 rfl rfl rfl ?_
      refine kx_aload_n 26 F 0 dX11_missing_25 rfl rfl rfl ?_
      refine kx_getr 29 F fl_X11_47 hk_c0 rfl rfl (j := 10) rfl dX11_missing_26 (v := (M c0 10)) (by rw [Fr.e hG_N_7 hk_c0 _ rfl]) rfl ?_
      have hk_10 : kd (M c0 10) = 41 := Inv.r hI_M hk_c0 rfl 10 rfl rfl
      refine kx_aload_n 30 F 0 dX11_missing_29 rfl rfl rfl ?_
      refine kx_getr 33 F fl_X11_26 hk_c0 rfl rfl (j := 5) rfl dX11_missing_30 (v := (M c0 5)) (by rw [Fr.e hG_N_7 hk_c0 _ rfl]) rfl ?_
      refine kx_iconst 34 F dX11_missing_33 rfl ?_
      refine kx_iload_n 35 F 1 dX11_missing_34 rfl rfl rfl ?_
      refine kx_iload_n 36 F 1 dX11_missing_35 rfl rfl rfl ?_
      refine kx_Vi 39 (ci := 0) F (As := [vR G (M c0 5), vI 3, vI a1, vI a1]) (st := [vR G c0]) vd_X11_317 (c_X4_slotOf G l N_7 (M c0 10) (M c0 5) 3 a1 a1 hI_N_7 hk_10 hk_1 (by omega) hX_N_7) hk_10 rfl rfl rfl ⟨by decide, by decide⟩ rfl rfl (Nat.le_of_ble_eq_true rfl) dX11_missing_36 rfl ?_
      intro r_11 N_12 q_13
      obtain ⟨hI_N_12, hG_N_12, q_13c, hX_N_12⟩ := q_13
      have hF_N_12 : Fr f_c_X11_missing M N_12 := Fr.c hF_N_7 hG_N_12 rfl
      refine kx_Vi 42 (ci := 0) F (As := [vI r_11]) (st := []) vd_X11_321 (c_X11_tellLength G l N_12 c0 r_11 hI_N_12 hk_c0 (by omega)) hk_c0 rfl rfl rfl ⟨by decide, by decide⟩ rfl rfl (Nat.le_of_ble_eq_true rfl) dX11_missing_39 rfl ?_
      intro r_14 N_15 q_16
      obtain ⟨hI_N_15, hG_N_15, q_16c⟩ := q_16
      have hF_N_15 : Fr f_c_X11_missing M N_15 := Fr.c hF_N_12 hG_N_15 rfl
      have hX_N_15 : XX N_15 := XX.fr hX_N_12 hI_N_12 hG_N_15 rfl
      exact kx_iret F hQ ⟨hI_N_15, hF_N_15, (by omega), hX_N_15⟩ dX11_missing_42
    · refine kx_istore_n 14 F 2 (lo' := [some (vR G c0), some (vI a1), some (vI r_6)]) dX11_missing_13 rfl (by decide) rfl rfl rfl ?_
      refine kx_iload_n 15 F 2 dX11_missing_14 rfl rfl rfl ?_
      refine kx_if_eq 18 F 24 dX11_missing_15 (by decide) rfl (by omega) (fun h_17 => (by exfalso; omega)) (fun h_17 => ?_)
      refine kx_aload_n 19 F 0 dX11_missing_18 rfl rfl rfl ?_
      refine kx_iload_n 20 F 2 dX11_missing_19 rfl rfl rfl ?_
      refine kx_Vi 23 (ci := 0) F (As := [vI r_6]) (st := []) vd_X11_110 (c_X11_refuse G l N_7 c0 r_6 hI_N_7 hk_c0 (by omega)) hk_c0 rfl rfl rfl ⟨by decide, by decide⟩ rfl rfl (Nat.le_of_ble_eq_true rfl) dX11_missing_20 rfl ?_
      intro r_18 N_19 q_20
      obtain ⟨hI_N_19, hG_N_19, q_20c⟩ := q_20
      have hF_N_19 : Fr f_c_X11_missing M N_19 := Fr.c hF_N_7 hG_N_19 rfl
      have hX_N_19 : XX N_19 := XX.fr hX_N_7 hI_N_7 hG_N_19 rfl
      subst q_20c
      exact kx_iret F hQ ⟨hI_N_19, hF_N_19, (by omega), hX_N_19⟩ dX11_missing_23
  · refine kx_iload_n 10 F 1 dX11_missing_9 rfl rfl rfl ?_
    refine kx_Vi 13 (ci := 0) F (As := [vI r_2, vI a1]) (st := []) vd_X11_327 (c_X11_tableRefusal G l M c0 r_2 a1 hI_M hk_c0 (by omega) hX_M) hk_c0 rfl rfl rfl ⟨by decide, by decide⟩ rfl rfl (Nat.le_of_ble_eq_true rfl) dX11_missing_10 rfl ?_
    intro r_21 N_22 q_23
    obtain ⟨hI_N_22, hG_N_22, q_23c, hX_N_22⟩ := q_23
    have hF_N_22 : Fr f_c_X11_missing M N_22 := Fr.c hF_M hG_N_22 rfl
    rcases q_23c with q_23c | q_23c
    · refine kx_istore_n 14 F 2 (lo' := [some (vR G c0), some (vI a1), some (vI r_21)]) dX11_missing_13 rfl (by decide) rfl rfl rfl ?_
      refine kx_iload_n 15 F 2 dX11_missing_14 rfl rfl rfl ?_
      refine kx_if_eq 18 F 24 dX11_missing_15 (by decide) rfl (by omega) (fun h_24 => ?_) (fun h_24 => (by exfalso; omega))
      refine kx_aload_n 25 F 0 dX11_missing_24 rfl rfl rfl ?_
      refine kx_aload_n 26 F 0 dX11_missing_25 rfl rfl rfl ?_
      refine kx_getr 29 F fl_X11_47 hk_c0 rfl rfl (j := 10) rfl dX11_missing_26 (v := (M c0 10)) (by rw [Fr.e hG_N_22 hk_c0 _ rfl]) rfl ?_
      have hk_25 : kd (M c0 10) = 41 := Inv.r hI_M hk_c0 rfl 10 rfl rfl
      refine kx_aload_n 30 F 0 dX11_missing_29 rfl rfl rfl ?_
      refine kx_getr 33 F fl_X11_26 hk_c0 rfl rfl (j := 5) rfl dX11_missing_30 (v := (M c0 5)) (by rw [Fr.e hG_N_22 hk_c0 _ rfl]) rfl ?_
      refine kx_iconst 34 F dX11_missing_33 rfl ?_
      refine kx_iload_n 35 F 1 dX11_missing_34 rfl rfl rfl ?_
      refine kx_iload_n 36 F 1 dX11_missing_35 rfl rfl rfl ?_
      refine kx_Vi 39 (ci := 0) F (As := [vR G (M c0 5), vI 3, vI a1, vI a1]) (st := [vR G c0]) vd_X11_317 (c_X4_slotOf G l N_22 (M c0 10) (M c0 5) 3 a1 a1 hI_N_22 hk_25 hk_1 (by omega) hX_N_22) hk_25 rfl rfl rfl ⟨by decide, by decide⟩ rfl rfl (Nat.le_of_ble_eq_true rfl) dX11_missing_36 rfl ?_
      intro r_26 N_27 q_28
      obtain ⟨hI_N_27, hG_N_27, q_28c, hX_N_27⟩ := q_28
      have hF_N_27 : Fr f_c_X11_missing M N_27 := Fr.c hF_N_22 hG_N_27 rfl
      refine kx_Vi 42 (ci := 0) F (As := [vI r_26]) (st := []) vd_X11_321 (c_X11_tellLength G l N_27 c0 r_26 hI_N_27 hk_c0 (by omega)) hk_c0 rfl rfl rfl ⟨by decide, by decide⟩ rfl rfl (Nat.le_of_ble_eq_true rfl) dX11_missing_39 rfl ?_
      intro r_29 N_30 q_31
      obtain ⟨hI_N_30, hG_N_30, q_31c⟩ := q_31
      have hF_N_30 : Fr f_c_X11_missing M N_30 := Fr.c hF_N_27 hG_N_30 rfl
      have hX_N_30 : XX N_30 := XX.fr hX_N_27 hI_N_27 hG_N_30 rfl
      exact kx_iret F hQ ⟨hI_N_30, hF_N_30, (by omega), hX_N_30⟩ dX11_missing_42
    · refine kx_istore_n 14 F 2 (lo' := [some (vR G c0), some (vI a1), some (vI r_21)]) dX11_missing_13 rfl (by decide) rfl rfl rfl ?_
      refine kx_iload_n 15 F 2 dX11_missing_14 rfl rfl rfl ?_
      refine kx_if_eq 18 F 24 dX11_missing_15 (by decide) rfl (by omega) (fun h_32 => (by exfalso; omega)) (fun h_32 => ?_)
      refine kx_aload_n 19 F 0 dX11_missing_18 rfl rfl rfl ?_
      refine kx_iload_n 20 F 2 dX11_missing_19 rfl rfl rfl ?_
      refine kx_Vi 23 (ci := 0) F (As := [vI r_21]) (st := []) vd_X11_110 (c_X11_refuse G l N_22 c0 r_21 hI_N_22 hk_c0 (by omega)) hk_c0 rfl rfl rfl ⟨by decide, by decide⟩ rfl rfl (Nat.le_of_ble_eq_true rfl) dX11_missing_20 rfl ?_
      intro r_33 N_34 q_35
      obtain ⟨hI_N_34, hG_N_34, q_35c⟩ := q_35
      have hF_N_34 : Fr f_c_X11_missing M N_34 := Fr.c hF_N_22 hG_N_34 rfl
      have hX_N_34 : XX N_34 := XX.fr hX_N_22 hI_N_22 hG_N_34 rfl
      subst q_35c
      exact kx_iret F hQ ⟨hI_N_34, hF_N_34, (by omega), hX_N_34⟩ dX11_missing_23
