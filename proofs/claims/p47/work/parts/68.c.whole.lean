theorem zLM.g {Bt : Int → Int} {t q : Int → Int} {j a1 fk fp : Int} (h : zLM Bt t q j a1 0 fk fp) : 0 ≤ fk := by
  unfold zLM at h
  rcases h with h | h | h | h | h | h <;> omega
theorem zAM.g {Bt : Int → Int} {q : Int → Int} {j fk fp : Int} (h : zAM Bt q j 0 fk fp) : 0 ≤ fk := by
  unfold zAM at h
  rcases h with h | h | h | h | h | h | h | h | h | h | h | h <;> omega
theorem zRM.g {Bt : Int → Int} {t q : Int → Int} {b j fk fp e sy : Int} (h : zRM Bt t q b j 0 fk fp e sy) : 0 ≤ fk := by
  unfold zRM at h
  rcases h with h | h | h | h | h | h | h | h | h | h | h | h | h | h | h | h | h | h | h | h | h | h | h | h <;> omega
theorem zPS.p {B t q q2 t2 : Int → Int} {j fk fp e : Int} (h : zPS B t q j 0 fk fp e q2 t2) : 0 ≤ fk := by
  have en : ∀ {e z : Int}, zEN B e z 0 fk fp → 0 ≤ fk := fun h => by
    unfold zEN at h
    rcases h with h | h | h | h <;> omega
  rcases h with ⟨a0, a1, a2, a3, a4, a5⟩ | ⟨a0, a2, a3, a4, a5⟩ | ⟨a0, a1, a2, ⟨s, a3, a4⟩, a5⟩ | ⟨a0, a2, ⟨y, a3, a4⟩, a5⟩ | ⟨a0, a1, a2, a3⟩
  · rcases a2 with z | z
    · exact z.2.g
    · exact en z.2
  · rcases a2 with z | z
    · exact z.2.g
    · exact en z.2
  · obtain ⟨k, c1, c2, c3⟩ := a3
    unfold SRs at c3
    rcases c3 with c | c | c | c | c <;> omega
  · rcases a3 with z | z
    · exact z.2.g
    · exact en z.2
  · omega
theorem zTm.p {B t q : Int → Int} {j fk fp : Int} (h : zTm B t q j fk fp) : 0 ≤ fk := by
  rcases h with a | ⟨-, -, e, q2, t2, a⟩ | a
  · omega
  · exact a.p
  · omega
abbrev f_e_begins2 : List (Nat × Int) := [(64, 10), (64, 11), (64, 12), (64, 13), (64, 14), (64, 15), (64, 17), (64, 18), (64, 19), (71, -1)]
set_option maxHeartbeats 4000000 in
set_option maxRecDepth 100000 in
theorem e_begins2 (G : KG) (l : Launch) (M : Mem) (a1 : Int) (a2 : Int) (hI_M : Inv true M) (hpre : -2147483648 ≤ a1 ∧ a1 ≤ 2147483647 ∧ -2147483648 ≤ a2 ∧ a2 ≤ 2147483647 ∧ a2 = 900) (Bt : Int → Int) (hT : zTB M 169 a1 Bt) : KC true G l yX12_begins cX12_begins 4 (some .boolean) (2, 42) [vR G 163, vI a1, vI a2] M (fun A => kQi true G A (fun (r : Int) (N : Mem) => Inv true N ∧ Fr f_e_begins2 M N ∧ ((r = 1 ∧ 0 ≤ a1 ∧ a1 ≤ (M 163 10) ∧ (N 163 10) = 0 ∧ (N 163 18) = 0 ∧ (N 163 17) = -1 ∧ (N 163 16) = (M 163 16)) ∨ (r = 0 ∧ a1 < 0 ∧ (N 163 16) = (M 163 16) ∧ (N 163 17) = (M 163 17) ∧ (N 163 10) = (M 163 10)) ∨ (r = 0 ∧ a1 > (M 163 10) ∧ (N 163 16) = (M 163 16) ∧ (N 163 17) = (M 163 17) ∧ (N 163 10) = (M 163 10))) ∧ (r = 1 → TM N Bt ∧ RT N Bt 0))) := by
  refine kx_met (lo := [some (vR G 163), some (vI a1), some (vI a2), none]) (by decide) (Nat.le_of_ble_eq_true rfl) rfl ?_
  intro X F hQ
  have hF_M : Fr f_e_begins2 M M := Fr.rf _ _
  refine kx_iload_n 1 F 1 dX12_begins_0 rfl rfl rfl ?_
  refine kx_if_lt 4 F 17 dX12_begins_1 (by decide) rfl (by omega) (fun h_1 => ?_) (fun h_1 => ?_)
  · refine kx_iconst 18 F dX12_begins_17 rfl ?_
    have h_2 := Inv.g hI_M kd_163 rfl 10 (a := 0) (b := 900) rfl rfl
    have h_3 := Inv.g hI_M kd_163 rfl 18 (a := (-2147483648)) (b := 2147483647) rfl rfl
    have h_4 := Inv.g hI_M kd_163 rfl 17 (a := (-2147483648)) (b := 2147483647) rfl rfl
    have h_5 := Inv.g hI_M kd_163 rfl 16 (a := (-2147483648)) (b := 2147483647) rfl rfl
    exact kx_zret F hQ (by omega) ⟨hI_M, hF_M, (Or.inr (Or.inl (by omega))), (fun h => absurd h (by omega))⟩ dX12_begins_18
  · refine kx_iload_n 5 F 1 dX12_begins_4 rfl rfl rfl ?_
    refine kx_aload_n 6 F 0 dX12_begins_5 rfl rfl rfl ?_
    refine kx_geti 9 F fl_X12_147 kd_163 rfl rfl (j := 10) rfl dX12_begins_6 (v := (M 163 10)) rfl rfl ?_
    have h_6 := Inv.g hI_M kd_163 rfl 10 (a := 0) (b := 900) rfl rfl
    refine kx_icmp_gt 12 F 17 dX12_begins_9 (by decide) rfl (by omega) (by omega) (fun h_7 => ?_) (fun h_7 => ?_)
    · refine kx_iconst 18 F dX12_begins_17 rfl ?_
      have h_8 := Inv.g hI_M kd_163 rfl 18 (a := (-2147483648)) (b := 2147483647) rfl rfl
      have h_9 := Inv.g hI_M kd_163 rfl 17 (a := (-2147483648)) (b := 2147483647) rfl rfl
      have h_10 := Inv.g hI_M kd_163 rfl 16 (a := (-2147483648)) (b := 2147483647) rfl rfl
      exact kx_zret F hQ (by omega) ⟨hI_M, hF_M, (Or.inr (Or.inr (by omega))), (fun h => absurd h (by omega))⟩ dX12_begins_18
    · refine kx_iload_n 13 F 1 dX12_begins_12 rfl rfl rfl ?_
      refine kx_iload_n 14 F 2 dX12_begins_13 rfl rfl rfl ?_
      refine kx_icmp_le 17 F 19 dX12_begins_14 (by decide) rfl (by omega) (by omega) (fun h_11 => ?_) (fun h_11 => (by exfalso; omega))
      refine kx_aload_n 20 F 0 dX12_begins_19 rfl rfl rfl ?_
      refine kx_iload_n 21 F 1 dX12_begins_20 rfl rfl rfl ?_
      refine kx_puti 24 F fw_X12_153 rfl kd_163 rfl rfl (j := 11) rfl dX12_begins_21 rfl ?_
      intro N_12 hM_N_12
      have hI_N_12 : Inv true N_12 := Inv.u hI_M hM_N_12 kd_163 (a := 0) (b := 900) rfl rfl rfl (by omega)
      have hF_N_12 : Fr f_e_begins2 M N_12 := Fr.u hF_M hM_N_12 kd_163 rfl
      refine kx_iconst 25 F dX12_begins_24 rfl ?_
      refine kx_istore_n 26 F 3 (lo' := [some (vR G 163), some (vI a1), some (vI a2), some (vI 0)]) dX12_begins_25 rfl (by decide) rfl rfl rfl ?_
      have L_176 : ∀ (n_177 : Nat) (x3_174 : Int) (N_175 : Mem), Inv true N_175 → Fr f_e_begins2 M N_175 → zCPY N_175 M x3_174 → 0 ≤ x3_174 ∧ x3_174 ≤ 900 ∧ (N_175 163 11) = a1 ∧ (N_175 163 10) = (M 163 10) ∧ (N_175 163 16) = (M 163 16) → (900 - (x3_174)).toNat = n_177 → KJ true G X N_175 26 [some (vR G 163), some (vI a1), none, some (vI x3_174)] [] := by
        intro n_177
        refine Nat.strongRecOn n_177 ?_
        intro n_177 ih_178 x3_174 N_175 hI_N_175 hF_N_175 hp_181 h_179 hm_180
        refine kx_iload_n 27 F 3 dX12_begins_26 rfl rfl rfl ?_
        refine kx_iload_n 28 F 1 dX12_begins_27 rfl rfl rfl ?_
        refine kx_icmp_ge 31 F 49 dX12_begins_28 (by decide) rfl (by omega) (by omega) (fun h_182 => ?_) (fun h_182 => ?_)
        · refine kx_aload_n 50 F 0 dX12_begins_49 rfl rfl rfl ?_
          refine kx_iconst 51 F dX12_begins_50 rfl ?_
          refine kx_puti 54 F fw_X12_147 rfl kd_163 rfl rfl (j := 10) rfl dX12_begins_51 rfl ?_
          intro N_183 hM_N_183
          have hI_N_183 : Inv true N_183 := Inv.u hI_N_175 hM_N_183 kd_163 (a := 0) (b := 900) rfl rfl rfl (by omega)
          have hF_N_183 : Fr f_e_begins2 M N_183 := Fr.u hF_N_175 hM_N_183 kd_163 rfl
          refine kx_aload_n 55 F 0 dX12_begins_54 rfl rfl rfl ?_
          refine kx_iconst 56 F dX12_begins_55 rfl ?_
          refine kx_puti 59 F fw_X12_193 rfl kd_163 rfl rfl (j := 18) rfl dX12_begins_56 rfl ?_
          intro N_184 hM_N_184
          have hI_N_184 : Inv true N_184 := Inv.u hI_N_183 hM_N_184 kd_163 (a := (-2147483648)) (b := 2147483647) rfl rfl rfl (by omega)
          have hF_N_184 : Fr f_e_begins2 M N_184 := Fr.u hF_N_183 hM_N_184 kd_163 rfl
          refine kx_aload_n 60 F 0 dX12_begins_59 rfl rfl rfl ?_
          refine kx_iconst 61 F dX12_begins_60 rfl ?_
          refine kx_puti 64 F fw_X12_41 rfl kd_163 rfl rfl (j := 17) rfl dX12_begins_61 rfl ?_
          intro N_185 hM_N_185
          have hI_N_185 : Inv true N_185 := Inv.u hI_N_184 hM_N_185 kd_163 (a := (-2147483648)) (b := 2147483647) rfl rfl rfl (by omega)
          have hF_N_185 : Fr f_e_begins2 M N_185 := Fr.u hF_N_184 hM_N_185 kd_163 rfl
          refine kx_aload_n 65 F 0 dX12_begins_64 rfl rfl rfl ?_
          refine kx_iconst 66 F dX12_begins_65 rfl ?_
          refine kx_puti 69 F fw_X12_156 rfl kd_163 rfl rfl (j := 14) rfl dX12_begins_66 rfl ?_
          intro N_186 hM_N_186
          have hI_N_186 : Inv true N_186 := Inv.u hI_N_185 hM_N_186 kd_163 (a := 0) (b := 900) rfl rfl rfl (by omega)
          have hF_N_186 : Fr f_e_begins2 M N_186 := Fr.u hF_N_185 hM_N_186 kd_163 rfl
          refine kx_aload_n 70 F 0 dX12_begins_69 rfl rfl rfl ?_
          refine kx_iconst 71 F dX12_begins_70 rfl ?_
          refine kx_puti 74 F fw_X12_196 rfl kd_163 rfl rfl (j := 19) rfl dX12_begins_71 rfl ?_
          intro N_187 hM_N_187
          have hI_N_187 : Inv true N_187 := Inv.u hI_N_186 hM_N_187 kd_163 (a := (-2147483648)) (b := 2147483647) rfl rfl rfl (by omega)
          have hF_N_187 : Fr f_e_begins2 M N_187 := Fr.u hF_N_186 hM_N_187 kd_163 rfl
          refine kx_aload_n 75 F 0 dX12_begins_74 rfl rfl rfl ?_
          have e_188 : (N_187 163 11) = (N_175 163 11) := by rw [hM_N_187, mu_i (by omega), hM_N_186, mu_i (by omega), hM_N_185, mu_i (by omega), hM_N_184, mu_i (by omega), hM_N_183, mu_i (by omega)]
          have h_189 := Inv.g hI_N_175 kd_163 rfl 11 (a := 0) (b := 900) rfl rfl
          have e_190 : (N_187 163 14) = 0 := by rw [hM_N_187, mu_i (by omega), hM_N_186, mu_s]
          have hB0 : TM N_187 Bt := TM.of (n := a1) (zTB.cg hT (fun k h0 h1 => by rw [hM_N_187, mu_k kd_170 kd_163 rfl, hM_N_186, mu_k kd_170 kd_163 rfl, hM_N_185, mu_k kd_170 kd_163 rfl, hM_N_184, mu_k kd_170 kd_163 rfl, hM_N_183, mu_k kd_170 kd_163 rfl]; exact hp_181 k h0 (by omega))) (by omega)
          refine kx_Vv 78 (ci := 0) F (As := []) (st := []) vd_X12_199 (e_X12_ahead G l N_187  hI_N_187 Bt hB0 0 (-1) (by decide) (by decide) (by rw [tq_0]; omega)) kd_163 rfl rfl rfl ⟨by decide, by decide⟩ rfl rfl (Nat.le_of_ble_eq_true rfl) dX12_begins_75 rfl ?_
          intro N_191 q_192
          obtain ⟨hI_N_191, hG_N_191, ht_N_191⟩ := q_192
          have hF_N_191 : Fr f_e_begins2 M N_191 := Fr.c hF_N_187 hG_N_191 rfl
          refine kx_iconst 79 F dX12_begins_78 rfl ?_
          have e_193 : (N_191 163 10) = 0 := by rw [Fr.e hG_N_191 kd_163 _ rfl, hM_N_187, mu_i (by omega), hM_N_186, mu_i (by omega), hM_N_185, mu_i (by omega), hM_N_184, mu_i (by omega), hM_N_183, mu_s]
          have e_194 : (N_191 163 18) = 0 := by rw [Fr.e hG_N_191 kd_163 _ rfl, hM_N_187, mu_i (by omega), hM_N_186, mu_i (by omega), hM_N_185, mu_i (by omega), hM_N_184, mu_s]
          have e_195 : (N_191 163 17) = -1 := by rw [Fr.e hG_N_191 kd_163 _ rfl, hM_N_187, mu_i (by omega), hM_N_186, mu_i (by omega), hM_N_185, mu_s]
          have e_196 : (N_191 163 16) = (M 163 16) := by rw [Fr.e hG_N_191 kd_163 _ rfl, hM_N_187, mu_i (by omega), hM_N_186, mu_i (by omega), hM_N_185, mu_i (by omega), hM_N_184, mu_i (by omega), hM_N_183, mu_i (by omega), Fr.e hF_N_175 kd_163 _ rfl]
          have h_197 := Inv.g hI_M kd_163 rfl 16 (a := (-2147483648)) (b := 2147483647) rfl rfl
          exact kx_zret F hQ (by omega) ⟨hI_N_191, hF_N_191, (Or.inl (by omega)), (fun _ => ⟨TM.fr hB0 hG_N_191 rfl, ht_N_191⟩)⟩ dX12_begins_79
        · refine kx_aload_n 32 F 0 dX12_begins_31 rfl rfl rfl ?_
          refine kx_getr 35 F fl_X12_34 kd_163 rfl rfl (j := 9) rfl dX12_begins_32 (v := 170) (uq_170 (Inv.r hI_N_175 kd_163 rfl 9 rfl rfl)) rfl ?_
          refine kx_iload_n 36 F 3 dX12_begins_35 rfl rfl rfl ?_
          refine kx_aload_n 37 F 0 dX12_begins_36 rfl rfl rfl ?_
          refine kx_getr 40 F fl_X12_30 kd_163 rfl rfl (j := 8) rfl dX12_begins_37 (v := 169) (uq_169 (Inv.r hI_N_175 kd_163 rfl 8 rfl rfl)) rfl ?_
          refine kx_iload_n 41 F 3 dX12_begins_40 rfl rfl rfl ?_
          refine kx_bald 42 F kd_169 rfl rfl (by omega) (by decide) dX12_begins_41 (v := (M 169 x3_174)) (by rw [Fr.e hF_N_175 kd_169 _ rfl]) rfl ?_
          have h_204 := Inv.g hI_M kd_169 rfl x3_174 (a := (-128)) (b := 127) rfl rfl
          refine kx_bast 43 F (by omega) kd_170 rfl rfl (by omega) (by decide) dX12_begins_42 rfl ?_
          intro N_205 hM_N_205
          have hI_N_205 : Inv true N_205 := Inv.u hI_N_175 hM_N_205 kd_170 (a := (-128)) (b := 127) rfl rfl rfl (by omega)
          have hF_N_205 : Fr f_e_begins2 M N_205 := Fr.u hF_N_175 hM_N_205 kd_170 rfl
          refine kx_iinc 46 F 3 (v := x3_174 + 1) (lo' := [some (vR G 163), some (vI a1), none, some (vI (x3_174 + 1))]) dX12_begins_43 rfl (by omega) (by decide) rfl rfl rfl ?_
          refine kx_goto 26 F dX12_begins_46 (by decide) ?_
          have e_206 : (N_205 163 11) = (N_175 163 11) := by rw [hM_N_205, mu_k kd_163 kd_170 rfl]
          have h_207 := Inv.g hI_N_175 kd_163 rfl 11 (a := 0) (b := 900) rfl rfl
          have e_208 : (N_205 163 10) = (N_175 163 10) := by rw [hM_N_205, mu_k kd_163 kd_170 rfl]
          have h_209 := Inv.g hI_N_175 kd_163 rfl 10 (a := 0) (b := 900) rfl rfl
          have e_210 : (N_205 163 16) = (M 163 16) := by rw [hM_N_205, mu_k kd_163 kd_170 rfl, Fr.e hF_N_175 kd_163 _ rfl]
          have h_211 := Inv.g hI_M kd_163 rfl 16 (a := (-2147483648)) (b := 2147483647) rfl rfl
          exact ih_178 _ (by omega) (x3_174 + 1) N_205 hI_N_205 hF_N_205 (zCPY.step hp_181 hM_N_205 (by omega) (by omega)) (by omega) rfl
      refine kx_drop 2 (lo' := [some (vR G 163), some (vI a1), none, some (vI 0)]) rfl ?_
      have e_212 : (N_12 163 11) = a1 := by rw [hM_N_12, mu_s]
      have e_213 : (N_12 163 10) = (M 163 10) := by rw [hM_N_12, mu_i (by omega)]
      have e_214 : (N_12 163 16) = (M 163 16) := by rw [hM_N_12, mu_i (by omega)]
      have h_215 := Inv.g hI_M kd_163 rfl 16 (a := (-2147483648)) (b := 2147483647) rfl rfl
      exact L_176 _ 0 N_12 hI_N_12 hF_N_12 zCPY.nil (by omega) rfl
abbrev f_e_plainN : List (Nat × Int) := [(65, -1)]
set_option maxHeartbeats 4000000 in
set_option maxRecDepth 100000 in
theorem e_plainN (G : KG) (l : Launch) (M : Mem) (a1 : Int) (hI_M : Inv true M) (hpre : -2147483648 ≤ a1 ∧ a1 ≤ 2147483647 ∧ a1 = 1088) : KC true G l yX12_plain cX12_plain 3 none (0, 0) [vR G 163, vI a1] M (fun A => kQv true G A (fun (N : Mem) => Inv true N ∧ Fr f_e_plainN M N ∧ ((LO N M ∧ R4 N) ∧ BQ N (fun _ => 0)))) := by
  refine kx_met (lo := [some (vR G 163), some (vI a1), none]) (by decide) (Nat.le_of_ble_eq_true rfl) rfl ?_
  intro X F hQ
  have hF_M : Fr f_e_plainN M M := Fr.rf _ _
  refine kx_iconst 1 F dX12_plain_0 rfl ?_
  refine kx_istore_n 2 F 2 (lo' := [some (vR G 163), some (vI a1), some (vI 0)]) dX12_plain_1 rfl (by decide) rfl rfl rfl ?_
  have L_42 : ∀ (n_43 : Nat) (x2_40 : Int) (N_41 : Mem), Inv true N_41 → Fr f_e_plainN M N_41 → PZ N_41 M x2_40 → 0 ≤ x2_40 ∧ x2_40 ≤ 272 → (272 - (x2_40)).toNat = n_43 → KJ true G X N_41 2 [some (vR G 163), some (vI a1), some (vI x2_40)] [] := by
    intro n_43
    refine Nat.strongRecOn n_43 ?_
    intro n_43 ih_44 x2_40 N_41 hI_N_41 hF_N_41 hp_47 h_45 hm_46
    refine kx_iload_n 3 F 2 dX12_plain_2 rfl rfl rfl ?_
    refine kx_sipush 6 F dX12_plain_3 (by decide) rfl ?_
    refine kx_icmp_ge 9 F 24 dX12_plain_6 (by decide) rfl (by omega) (by decide) (fun h_48 => ?_) (fun h_48 => ?_)
    · refine kx_aload_n 25 F 0 dX12_plain_24 rfl rfl rfl ?_
      refine kx_getr 28 F fl_X12_7 kd_163 rfl rfl (j := 0) rfl dX12_plain_25 (v := 164) (uq_164 (Inv.r hI_N_41 kd_163 rfl 0 rfl rfl)) rfl ?_
      refine kx_iload_n 29 F 1 dX12_plain_28 rfl rfl rfl ?_
      refine kx_iconst 30 F dX12_plain_29 rfl ?_
      refine kx_iadd 31 F (v := a1 + 4) dX12_plain_30 rfl rfl ?_
      refine kx_iconst 32 F dX12_plain_31 rfl ?_
      refine kx_iast 33 F kd_164 rfl rfl (by omega) (by decide) dX12_plain_32 rfl ?_
      intro N_49 hM_N_49
      have ha_50 : atlo (a1 + 4) = (-1) ∧ athi (a1 + 4) = 1 := at_c (a1 + 4) 4 (o := 4) (lo := (-1)) (hi := 1) (by omega) (by decide) (by decide) (by decide)
      have hI_N_49 : Inv true N_49 := Inv.u hI_N_41 hM_N_49 kd_164 (a := (-1)) (b := 1) ha_50.1 ha_50.2 rfl (by omega)
      have hF_N_49 : Fr f_e_plainN M N_49 := Fr.u hF_N_41 hM_N_49 kd_164 rfl
      exact kx_vret F hQ ⟨hI_N_49, hF_N_49, ⟨PZ.done (by rw [show (272 : Int) = x2_40 by omega]; exact hp_47) (by rw [hM_N_49, show a1 + 4 = 1092 by omega]), PZ.bq (by rw [show (272 : Int) = x2_40 by omega]; exact hp_47) (by rw [hM_N_49, show a1 + 4 = 1092 by omega])⟩⟩ dX12_plain_33
    · refine kx_aload_n 10 F 0 dX12_plain_9 rfl rfl rfl ?_
      refine kx_getr 13 F fl_X12_7 kd_163 rfl rfl (j := 0) rfl dX12_plain_10 (v := 164) (uq_164 (Inv.r hI_N_41 kd_163 rfl 0 rfl rfl)) rfl ?_
      refine kx_iload_n 14 F 1 dX12_plain_13 rfl rfl rfl ?_
      refine kx_iload_n 15 F 2 dX12_plain_14 rfl rfl rfl ?_
      refine kx_iadd 16 F (v := a1 + x2_40) dX12_plain_15 rfl rfl ?_
      refine kx_iconst 17 F dX12_plain_16 rfl ?_
      refine kx_iast 18 F kd_164 rfl rfl (by omega) (by decide) dX12_plain_17 rfl ?_
      intro N_51 hM_N_51
      have h_52 := at_0 (a1 + x2_40)
      have hI_N_51 : Inv true N_51 := Inv.u hI_N_41 hM_N_51 kd_164 (a := atlo (a1 + x2_40)) (b := athi (a1 + x2_40)) rfl rfl rfl (by omega)
      have hF_N_51 : Fr f_e_plainN M N_51 := Fr.u hF_N_41 hM_N_51 kd_164 rfl
      refine kx_iinc 21 F 2 (v := x2_40 + 1) (lo' := [some (vR G 163), some (vI a1), some (vI (x2_40 + 1))]) dX12_plain_18 rfl (by omega) (by decide) rfl rfl rfl ?_
      refine kx_goto 2 F dX12_plain_21 (by decide) ?_
      exact ih_44 _ (by omega) (x2_40 + 1) N_51 hI_N_51 hF_N_51 (PZ.step hp_47 (by omega) hM_N_51 (by omega) (by omega)) (by omega) rfl
  exact L_42 _ 0 M hI_M hF_M (PZ.nil M) (by omega) rfl
abbrev f_e_X12_taken : List (Nat × Int) := [(64, 2), (64, 16)]
set_option maxHeartbeats 4000000 in
set_option maxRecDepth 100000 in
theorem e_X12_taken (G : KG) (l : Launch) (M : Mem) (a1 : Int) (hI_M : Inv true M) (hpre : -2147483648 ≤ a1 ∧ a1 ≤ 2147483647) : KC true G l yX12_taken cX12_taken 2 (some .int) (1, 21) [vR G 163, vI a1] M (fun A => kQi true G A (fun (r : Int) (N : Mem) => Inv true N ∧ Fr f_e_X12_taken M N ∧ (((M 163 18) ≥ 1 ∧ r = -1 ∧ (N 163 16) = (M 163 18)) ∨ ((M 163 18) ≤ 0 ∧ r = a1 ∧ (N 163 16) = (M 163 18))))) := by
  refine kx_met (lo := [some (vR G 163), some (vI a1)]) (by decide) (Nat.le_of_ble_eq_true rfl) rfl ?_
  intro X F hQ
  have hF_M : Fr f_e_X12_taken M M := Fr.rf _ _
  refine kx_aload_n 1 F 0 dX12_taken_0 rfl rfl rfl ?_
  refine kx_aload_n 2 F 0 dX12_taken_1 rfl rfl rfl ?_
  refine kx_geti 5 F fl_X12_193 kd_163 rfl rfl (j := 18) rfl dX12_taken_2 (v := (M 163 18)) rfl rfl ?_
  have h_1 := Inv.g hI_M kd_163 rfl 18 (a := (-2147483648)) (b := 2147483647) rfl rfl
  refine kx_puti 8 F fw_X12_37 rfl kd_163 rfl rfl (j := 16) rfl dX12_taken_5 rfl ?_
  intro N_2 hM_N_2
  have hI_N_2 : Inv true N_2 := Inv.u hI_M hM_N_2 kd_163 (a := (-2147483648)) (b := 2147483647) rfl rfl rfl (by omega)
  have hF_N_2 : Fr f_e_X12_taken M N_2 := Fr.u hF_M hM_N_2 kd_163 rfl
  refine kx_aload_n 9 F 0 dX12_taken_8 rfl rfl rfl ?_
  refine kx_geti 12 F fl_X12_193 kd_163 rfl rfl (j := 18) rfl dX12_taken_9 (v := (M 163 18)) (by rw [hM_N_2, mu_i (by omega)]) rfl ?_
  refine kx_if_le 15 F 24 dX12_taken_12 (by decide) rfl (by omega) (fun h_3 => ?_) (fun h_3 => ?_)
  · refine kx_aload_n 25 F 0 dX12_taken_24 rfl rfl rfl ?_
    refine kx_iload_n 26 F 1 dX12_taken_25 rfl rfl rfl ?_
    refine kx_Vi 29 (ci := 0) F (As := [vI a1]) (st := []) vd_X12_127 (c_X12_gives G l N_2 a1 hI_N_2 (by omega)) kd_163 rfl rfl rfl ⟨by decide, by decide⟩ rfl rfl (Nat.le_of_ble_eq_true rfl) dX12_taken_26 rfl ?_
    intro r_4 N_5 q_6
    obtain ⟨hI_N_5, hG_N_5, q_6c⟩ := q_6
    have hF_N_5 : Fr f_e_X12_taken M N_5 := Fr.c hF_N_2 hG_N_5 rfl
    refine kx_topi (e' := a1) (by omega) ?_
    have e_7 : (N_5 163 16) = (M 163 18) := by rw [Fr.e hG_N_5 kd_163 _ rfl, hM_N_2, mu_s]
    exact kx_iret F hQ ⟨hI_N_5, hF_N_5, (by omega)⟩ dX12_taken_29
  · refine kx_aload_n 16 F 0 dX12_taken_15 rfl rfl rfl ?_
    refine kx_bipush 18 F dX12_taken_16 (by decide) rfl ?_
    refine kx_Vi 21 (ci := 0) F (As := [vI 9]) (st := []) vd_X12_123 (c_X12_refuse G l N_2 9 hI_N_2 (by omega)) kd_163 rfl rfl rfl ⟨by decide, by decide⟩ rfl rfl (Nat.le_of_ble_eq_true rfl) dX12_taken_18 rfl ?_
    intro r_9 N_10 q_11
    obtain ⟨hI_N_10, hG_N_10, q_11c⟩ := q_11
    have hF_N_10 : Fr f_e_X12_taken M N_10 := Fr.c hF_N_2 hG_N_10 rfl
    subst q_11c
    refine kx_goto 29 F dX12_taken_21 (by decide) ?_
    have e_12 : (N_10 163 16) = (M 163 18) := by rw [Fr.e hG_N_10 kd_163 _ rfl, hM_N_2, mu_s]
    exact kx_iret F hQ ⟨hI_N_10, hF_N_10, (by omega)⟩ dX12_taken_29
abbrev f_e_checker2 : List (Nat × Int) := [(64, 2), (64, 10), (64, 11), (64, 12), (64, 13), (64, 14), (64, 15), (64, 16), (64, 17), (64, 18), (64, 19), (65, -1), (66, -1), (71, -1)]
set_option maxHeartbeats 4000000 in
set_option maxRecDepth 100000 in
theorem e_checker2 (G : KG) (l : Launch) (M : Mem) (a1 : Int) (hI_M : Inv true M) (hpre : -2147483648 ≤ a1 ∧ a1 ≤ 2147483647) (hY : YY M) (Bt : Int → Int) (hT : zTB M 169 a1 Bt) : KC true G l yX12_checker cX12_checker 4 (some .int) (8, 181) [vR G 163, vI a1] M (fun A => kQi true G A (fun (r : Int) (N : Mem) => Inv true N ∧ Fr f_e_checker2 M N ∧ ((a1 < 0 ∧ r = -1 ∧ (N 163 16) = (M 163 16) ∧ (N 163 17) = (M 163 17) ∧ (N 163 10) = (M 163 10)) ∨ (a1 > (M 163 10) ∧ r = -1 ∧ (N 163 16) = (M 163 16) ∧ (N 163 17) = (M 163 17) ∧ (N 163 10) = (M 163 10)) ∨ (a1 ≥ 0 ∧ a1 ≤ (M 163 10) ∧ (N 163 10) = 0)) ∧ ((YY N) ∧ ((0 ≤ a1 → a1 ≤ M 163 10 → ∃ q t, zOUT Bt (N 163 16) (N 163 17) q t ∧ ((N 163 16 = 0 ∧ r = q 3 ∧ zRN (N 164) q ∧ zRU (N 164) q ∧ N 164 4 = -1 ∧ ∀ i, 272 ≤ i → i < 1088 → N 164 i = M 164 i) ∨ (¬ N 163 16 = 0 ∧ r = -1 ∧ ∀ i, i < 1088 → N 164 i = M 164 i))) ∧ (¬ (0 ≤ a1 ∧ a1 ≤ M 163 10) → ∀ i, i < 1088 → N 164 i = M 164 i))))) := by
  refine kx_met (lo := [some (vR G 163), some (vI a1), none, none]) (by decide) (Nat.le_of_ble_eq_true rfl) rfl ?_
  intro X F hQ
  have hF_M : Fr f_e_checker2 M M := Fr.rf _ _
  refine kx_aload_n 1 F 0 dX12_checker_0 rfl rfl rfl ?_
  refine kx_iload_n 2 F 1 dX12_checker_1 rfl rfl rfl ?_
  refine kx_sipush 5 F dX12_checker_2 (by decide) rfl ?_
  refine kx_Vi 8 (ci := 0) F (As := [vI a1, vI 900]) (st := []) vd_X12_273 (e_begins2 G l M a1 900 hI_M (by omega) Bt hT) kd_163 rfl rfl rfl ⟨by decide, by decide⟩ rfl rfl (Nat.le_of_ble_eq_true rfl) dX12_checker_5 rfl ?_
  intro r_1 N_2 q_3
  obtain ⟨hI_N_2, hG_N_2, q_3c, hb_N_2⟩ := q_3
  have hF_N_2 : Fr f_e_checker2 M N_2 := Fr.c hF_M hG_N_2 rfl
  have h_4 := Inv.g hI_M kd_163 rfl 10 (a := 0) (b := 900) rfl rfl
  have h_5 := Inv.g hI_N_2 kd_163 rfl 10 (a := 0) (b := 900) rfl rfl
  have h_6 := Inv.g hI_N_2 kd_163 rfl 18 (a := (-2147483648)) (b := 2147483647) rfl rfl
  have h_7 := Inv.g hI_N_2 kd_163 rfl 17 (a := (-2147483648)) (b := 2147483647) rfl rfl
  have h_8 := Inv.g hI_M kd_163 rfl 16 (a := (-2147483648)) (b := 2147483647) rfl rfl
  have e_9 : (N_2 163 16) = (M 163 16) := by rw [Fr.e hG_N_2 kd_163 _ rfl]
  have h_12 := Inv.g hI_M kd_163 rfl 17 (a := (-2147483648)) (b := 2147483647) rfl rfl
  rcases q_3c with q_3c | q_3c | q_3c
  · refine kx_if_ne 11 F 17 dX12_checker_8 (by decide) rfl (by omega) (fun h_22 => ?_) (fun h_22 => (by exfalso; omega))
    have hb2 := hb_N_2 (by omega)
    refine kx_aload_n 18 F 0 dX12_checker_17 rfl rfl rfl ?_
    refine kx_sipush 21 F dX12_checker_18 (by decide) rfl ?_
    refine kx_Vv 24 (ci := 0) F (As := [vI 1088]) (st := []) vd_X12_113 (e_plainN G l N_2 1088 hI_N_2 (by omega)) kd_163 rfl rfl rfl ⟨by decide, by decide⟩ rfl rfl (Nat.le_of_ble_eq_true rfl) dX12_checker_21 rfl ?_
    intro N_23 q_24
    obtain ⟨hI_N_23, hG_N_23, ⟨hl_N_23, hbq_N_23⟩⟩ := q_24
    have hF_N_23 : Fr f_e_checker2 M N_23 := Fr.c hF_N_2 hG_N_23 rfl
    refine kx_iconst 25 F dX12_checker_24 rfl ?_
    refine kx_istore_n 26 F 2 (lo' := [some (vR G 163), some (vI a1), some (vI 1), none]) dX12_checker_25 rfl (by decide) rfl rfl rfl ?_
    have L_422 : ∀ (n_423 : Nat) (x2_420 : Int) (N_421 : Mem), Inv true N_421 → Fr f_e_checker2 M N_421 → LO N_421 M → GR N_421 x2_420 → zCK N_421 Bt x2_420 → TM N_421 Bt → 0 ≤ x2_420 ∧ x2_420 ≤ 1 ∧ (N_421 163 13) ≥ 0 ∧ (N_421 163 13) ≤ 900 ∧ (N_421 163 10) = 0 → (900 - N_421 163 13 + 901 * x2_420).toNat = n_423 → KJ true G X N_421 26 [some (vR G 163), none, some (vI x2_420), none] [] := by
      intro n_423
      refine Nat.strongRecOn n_423 ?_
      intro n_423 ih_424 x2_420 N_421 hI_N_421 hF_N_421 hp_427 hp_428 hp_429 hp_430 h_425 hm_426
      obtain ⟨k, j, q, t, hCH, hCK⟩ := hp_429
      have hv := zCH.v k hCH
      refine kx_iload_n 27 F 2 dX12_checker_26 rfl rfl rfl ?_
      refine kx_if_eq 30 F 45 dX12_checker_27 (by decide) rfl (by omega) (fun h_431 => ?_) (fun h_431 => ?_)
      · have h_432 : ¬ x2_420 = 1 → ¬ N_421 163 18 = 0 := hp_428.2
        refine kx_aload_n 46 F 0 dX12_checker_45 rfl rfl rfl ?_
        refine kx_geti 49 F fl_X12_193 kd_163 rfl rfl (j := 18) rfl dX12_checker_46 (v := (N_421 163 18)) rfl rfl ?_
        have h_433 := Inv.g hI_N_421 kd_163 rfl 18 (a := (-2147483648)) (b := 2147483647) rfl rfl
        refine kx_if_ne 52 F 112 dX12_checker_49 (by decide) rfl (by omega) (fun h_434 => ?_) (fun h_434 => ?_)
        · refine kx_aload_n 113 F 0 dX12_checker_112 rfl rfl rfl ?_
          refine kx_aload_n 114 F 0 dX12_checker_113 rfl rfl rfl ?_
          refine kx_getr 117 F fl_X12_7 kd_163 rfl rfl (j := 0) rfl dX12_checker_114 (v := 164) (uq_164 (Inv.r hI_N_421 kd_163 rfl 0 rfl rfl)) rfl ?_
          refine kx_iconst 118 F dX12_checker_117 rfl ?_
          refine kx_iald 119 F kd_164 rfl rfl (by omega) (by decide) dX12_checker_118 (v := (N_421 164 3)) rfl rfl ?_
          have ha_435 : atlo 3 = 0 ∧ athi 3 = 2 := at_c 3 0 (o := 3) (lo := 0) (hi := 2) (by omega) (by decide) (by decide) (by decide)
          have h_436 := Inv.g hI_N_421 kd_164 rfl 3 (a := 0) (b := 2) ha_435.1 ha_435.2
          refine kx_Vi 122 (ci := 0) F (As := [vI (N_421 164 3)]) (st := []) vd_X12_279 (e_X12_taken G l N_421 (N_421 164 3) hI_N_421 (by omega)) kd_163 rfl rfl rfl ⟨by decide, by decide⟩ rfl rfl (Nat.le_of_ble_eq_true rfl) dX12_checker_119 rfl ?_
          intro r_437 N_438 q_439
          obtain ⟨hI_N_438, hG_N_438, q_439c⟩ := q_439
          have hF_N_438 : Fr f_e_checker2 M N_438 := Fr.c hF_N_421 hG_N_438 rfl
          have h_440 := Inv.g hI_N_438 kd_163 rfl 16 (a := (-2147483648)) (b := 2147483647) rfl rfl
          rcases q_439c with q_439c | q_439c
          · have e_442 : (N_438 163 17) = (N_421 163 17) := by rw [Fr.e hG_N_438 kd_163 _ rfl]
            have h_443 := Inv.g hI_N_421 kd_163 rfl 17 (a := (-2147483648)) (b := 2147483647) rfl rfl
            have e_444 : (N_438 163 10) = (N_421 163 10) := by rw [Fr.e hG_N_438 kd_163 _ rfl]
            have h_445 := Inv.g hI_N_421 kd_163 rfl 10 (a := 0) (b := 900) rfl rfl
            have e_450 : (N_438 163 18) = (N_421 163 18) := by rw [Fr.e hG_N_438 kd_163 _ rfl]
            exact kx_iret F hQ ⟨hI_N_438, hF_N_438, (Or.inr (Or.inr (by omega))), ⟨(YY.fr (YY.lo hY hI_M hp_427) hG_N_438 rfl), ⟨fun _ _ => by have hz := (hCK.n (by omega)).1; have hp := hz.p; rw [show N_421 163 18 = N_438 163 16 by omega, show N_421 163 17 = N_438 163 17 by omega] at hz; exact ⟨q, t, ⟨k, j, hCH, hz⟩, Or.inr ⟨by omega, by omega, (LO.fr hp_427 hG_N_438 rfl)⟩⟩, fun h => absurd (And.intro (by omega) (by omega)) h⟩⟩⟩ dX12_checker_122
          · have e_451 : (N_438 163 17) = (N_421 163 17) := by rw [Fr.e hG_N_438 kd_163 _ rfl]
            have h_452 := Inv.g hI_N_421 kd_163 rfl 17 (a := (-2147483648)) (b := 2147483647) rfl rfl
            have e_453 : (N_438 163 10) = (N_421 163 10) := by rw [Fr.e hG_N_438 kd_163 _ rfl]
            have h_454 := Inv.g hI_N_421 kd_163 rfl 10 (a := 0) (b := 900) rfl rfl
            have e_459 : (N_438 163 18) = (N_421 163 18) := by rw [Fr.e hG_N_438 kd_163 _ rfl]
            exact kx_iret F hQ ⟨hI_N_438, hF_N_438, (Or.inr (Or.inr (by omega))), ⟨(YY.fr (YY.lo hY hI_M hp_427) hG_N_438 rfl), ⟨fun _ _ => by have hz := (hCK.n (by omega)).1; have hp := hz.p; rw [show N_421 163 18 = N_438 163 16 by omega, show N_421 163 17 = N_438 163 17 by omega] at hz; exact ⟨q, t, ⟨k, j, hCH, hz⟩, Or.inr ⟨by omega, by omega, (LO.fr hp_427 hG_N_438 rfl)⟩⟩, fun h => absurd (And.intro (by omega) (by omega)) h⟩⟩⟩ dX12_checker_122
        · refine kx_iconst 53 F dX12_checker_52 rfl ?_
          exfalso; omega
      · have hy := hCK.y (by omega)
        have hy1 := hy.1.u.1
        refine kx_aload_n 31 F 0 dX12_checker_30 rfl rfl rfl ?_
        refine kx_geti 34 F fl_X12_168 kd_163 rfl rfl (j := 12) rfl dX12_checker_31 (v := (N_421 163 12)) rfl rfl ?_
        have h_460 := Inv.g hI_N_421 kd_163 rfl 12 (a := 0) (b := 4) rfl rfl
        refine kx_if_eq 37 F 45 dX12_checker_34 (by decide) rfl (by omega) (fun h_461 => ?_) (fun h_461 => ?_)
        · have h_462 : ¬ x2_420 = 1 → ¬ N_421 163 18 = 0 := hp_428.2
          refine kx_aload_n 46 F 0 dX12_checker_45 rfl rfl rfl ?_
          refine kx_geti 49 F fl_X12_193 kd_163 rfl rfl (j := 18) rfl dX12_checker_46 (v := (N_421 163 18)) rfl rfl ?_
          have h_463 := Inv.g hI_N_421 kd_163 rfl 18 (a := (-2147483648)) (b := 2147483647) rfl rfl
          refine kx_if_ne 52 F 112 dX12_checker_49 (by decide) rfl (by omega) (fun h_464 => (by exfalso; omega)) (fun h_464 => ?_)
          have htk : tk Bt j = 0 := by have h := hy.1.u; omega
          have hq3 : N_421 164 1091 = q 3 := hy.2.1.2.2.2.1
          refine kx_iconst 53 F dX12_checker_52 rfl ?_
          refine kx_istore_n 54 F 3 (lo' := [some (vR G 163), none, some (vI x2_420), some (vI 0)]) dX12_checker_53 rfl (by decide) rfl rfl rfl ?_
          have L_713 : ∀ (n_714 : Nat) (x3_711 : Int) (N_712 : Mem), Inv true N_712 → Fr f_e_checker2 M N_712 → CPk N_712 N_421 0 1088 x3_711 → 0 ≤ x3_711 ∧ x3_711 ≤ 272 ∧ (N_712 163 18) = 0 ∧ (N_712 163 17) = -1 ∧ (N_712 163 10) = 0 → (272 - (x3_711)).toNat = n_714 → KJ true G X N_712 54 [some (vR G 163), none, none, some (vI x3_711)] [] := by
            intro n_714
            refine Nat.strongRecOn n_714 ?_
            intro n_714 ih_715 x3_711 N_712 hI_N_712 hF_N_712 hp_718 h_716 hm_717
            refine kx_iload_n 55 F 3 dX12_checker_54 rfl rfl rfl ?_
            refine kx_sipush 58 F dX12_checker_55 (by decide) rfl ?_
            refine kx_icmp_ge 61 F 83 dX12_checker_58 (by decide) rfl (by omega) (by decide) (fun h_719 => ?_) (fun h_719 => ?_)
            · refine kx_iconst 84 F dX12_checker_83 rfl ?_
              refine kx_istore_n 85 F 3 (lo' := [some (vR G 163), none, none, some (vI 0)]) dX12_checker_84 rfl (by decide) rfl rfl rfl ?_
              have L_789 : ∀ (n_790 : Nat) (x3_787 : Int) (N_788 : Mem), Inv true N_788 → Fr f_e_checker2 M N_788 → YY N_788 → zRN (N_788 164) q → zRU (N_788 164) q → zLK N_788 M → 0 ≤ x3_787 ∧ x3_787 ≤ 6 ∧ (N_788 163 18) = 0 ∧ (N_788 163 17) = -1 ∧ (N_788 163 10) = 0 ∧ (N_788 164 3) = (q 3) ∧ (N_788 164 4) = -1 → (6 - (x3_787)).toNat = n_790 → KJ true G X N_788 85 [some (vR G 163), none, none, some (vI x3_787)] [] := by
                intro n_790
                refine Nat.strongRecOn n_790 ?_
                intro n_790 ih_791 x3_787 N_788 hI_N_788 hF_N_788 hp_794 hp_795 hp_796 hp_797 h_792 hm_793
                refine kx_iload_n 86 F 3 dX12_checker_85 rfl rfl rfl ?_
                refine kx_bipush 88 F dX12_checker_86 (by decide) rfl ?_
                refine kx_icmp_ge 91 F 112 dX12_checker_88 (by decide) rfl (by omega) (by decide) (fun h_798 => ?_) (fun h_798 => ?_)
                · refine kx_aload_n 113 F 0 dX12_checker_112 rfl rfl rfl ?_
                  refine kx_aload_n 114 F 0 dX12_checker_113 rfl rfl rfl ?_
                  refine kx_getr 117 F fl_X12_7 kd_163 rfl rfl (j := 0) rfl dX12_checker_114 (v := 164) (uq_164 (Inv.r hI_N_788 kd_163 rfl 0 rfl rfl)) rfl ?_
                  refine kx_iconst 118 F dX12_checker_117 rfl ?_
                  refine kx_iald 119 F kd_164 rfl rfl (by omega) (by decide) dX12_checker_118 (v := (N_788 164 3)) rfl rfl ?_
                  have ha_799 : atlo 3 = 0 ∧ athi 3 = 2 := at_c 3 0 (o := 3) (lo := 0) (hi := 2) (by omega) (by decide) (by decide) (by decide)
                  have h_800 := Inv.g hI_N_788 kd_164 rfl 3 (a := 0) (b := 2) ha_799.1 ha_799.2
                  refine kx_Vi 122 (ci := 0) F (As := [vI (N_788 164 3)]) (st := []) vd_X12_279 (e_X12_taken G l N_788 (N_788 164 3) hI_N_788 (by omega)) kd_163 rfl rfl rfl ⟨by decide, by decide⟩ rfl rfl (Nat.le_of_ble_eq_true rfl) dX12_checker_119 rfl ?_
                  intro r_801 N_802 q_803
                  obtain ⟨hI_N_802, hG_N_802, q_803c⟩ := q_803
                  have hF_N_802 : Fr f_e_checker2 M N_802 := Fr.c hF_N_788 hG_N_802 rfl
                  have h_804 := Inv.g hI_N_788 kd_163 rfl 18 (a := (-2147483648)) (b := 2147483647) rfl rfl
                  have h_805 := Inv.g hI_N_802 kd_163 rfl 16 (a := (-2147483648)) (b := 2147483647) rfl rfl
                  rcases q_803c with q_803c | q_803c
                  · exfalso; omega
                  · have e_808 : (N_802 163 17) = (N_788 163 17) := by rw [Fr.e hG_N_802 kd_163 _ rfl]
                    have h_809 := Inv.g hI_N_788 kd_163 rfl 17 (a := (-2147483648)) (b := 2147483647) rfl rfl
                    have e_810 : (N_802 163 10) = (N_788 163 10) := by rw [Fr.e hG_N_802 kd_163 _ rfl]
                    have h_811 := Inv.g hI_N_788 kd_163 rfl 10 (a := 0) (b := 900) rfl rfl
                    have e_816 : (N_802 163 18) = (N_788 163 18) := by rw [Fr.e hG_N_802 kd_163 _ rfl]
                    have e_817 : (N_802 164 4) = (N_788 164 4) := by rw [Fr.e hG_N_802 kd_164 _ rfl]
                    exact kx_iret F hQ ⟨hI_N_802, hF_N_802, (Or.inr (Or.inr (by omega))), ⟨(YY.fr hp_794 hG_N_802 rfl), ⟨fun _ _ => ⟨q, t, ⟨k, j, hCH, Or.inr (Or.inr ⟨htk, by omega, by omega⟩)⟩, Or.inl ⟨by omega, by omega, by rw [show N_802 164 = N_788 164 from (hG_N_802.fn kd_164 rfl)]; exact hp_795, by rw [show N_802 164 = N_788 164 from (hG_N_802.fn kd_164 rfl)]; exact hp_796, by omega, fun i h1 h2 => by rw [show N_802 164 = N_788 164 from (hG_N_802.fn kd_164 rfl)]; exact hp_797 i h1 h2⟩⟩, fun h => absurd (And.intro (by omega) (by omega)) h⟩⟩⟩ dX12_checker_122
                · refine kx_aload_n 92 F 0 dX12_checker_91 rfl rfl rfl ?_
                  refine kx_getr 95 F fl_X12_13 kd_163 rfl rfl (j := 1) rfl dX12_checker_92 (v := 165) (uq_165 (Inv.r hI_N_788 kd_163 rfl 1 rfl rfl)) rfl ?_
                  refine kx_iload_n 96 F 3 dX12_checker_95 rfl rfl rfl ?_
                  refine kx_aload_n 97 F 0 dX12_checker_96 rfl rfl rfl ?_
                  refine kx_getr 100 F fl_X12_13 kd_163 rfl rfl (j := 1) rfl dX12_checker_97 (v := 165) (uq_165 (Inv.r hI_N_788 kd_163 rfl 1 rfl rfl)) rfl ?_
                  refine kx_bipush 102 F dX12_checker_100 (by decide) rfl ?_
                  refine kx_iload_n 103 F 3 dX12_checker_102 rfl rfl rfl ?_
                  refine kx_iadd 104 F (v := x3_787 + 24) dX12_checker_103 (by omega) rfl ?_
                  refine kx_lald 105 F kd_165 rfl rfl (by omega) (by decide) dX12_checker_104 (v := (N_788 165 (x3_787 + 24))) rfl rfl ?_
                  have h_818 := Inv.g hI_N_788 kd_165 rfl (x3_787 + 24) (a := (-9223372036854775808)) (b := 9223372036854775807) rfl rfl
                  refine kx_last 106 F kd_165 rfl rfl (by omega) (by decide) dX12_checker_105 rfl ?_
                  intro N_819 hM_N_819
                  have hI_N_819 : Inv true N_819 := Inv.u hI_N_788 hM_N_819 kd_165 (a := (-9223372036854775808)) (b := 9223372036854775807) rfl rfl rfl (by omega)
                  have hF_N_819 : Fr f_e_checker2 M N_819 := Fr.u hF_N_788 hM_N_819 kd_165 rfl
                  refine kx_iinc 109 F 3 (v := x3_787 + 1) (lo' := [some (vR G 163), none, none, some (vI (x3_787 + 1))]) dX12_checker_106 rfl (by omega) (by decide) rfl rfl rfl ?_
                  refine kx_goto 85 F dX12_checker_109 (by decide) ?_
                  have e_820 : (N_819 163 18) = (N_788 163 18) := by rw [hM_N_819, mu_k kd_163 kd_165 rfl]
                  have h_821 := Inv.g hI_N_788 kd_163 rfl 18 (a := (-2147483648)) (b := 2147483647) rfl rfl
                  have e_822 : (N_819 163 17) = (N_788 163 17) := by rw [hM_N_819, mu_k kd_163 kd_165 rfl]
                  have h_823 := Inv.g hI_N_788 kd_163 rfl 17 (a := (-2147483648)) (b := 2147483647) rfl rfl
                  have e_824 : (N_819 163 10) = (N_788 163 10) := by rw [hM_N_819, mu_k kd_163 kd_165 rfl]
                  have h_825 := Inv.g hI_N_788 kd_163 rfl 10 (a := 0) (b := 900) rfl rfl
                  have e_826 : (N_819 164 3) = (N_788 164 3) := by rw [hM_N_819, mu_k kd_164 kd_165 rfl]
                  have e_827 : (N_819 164 4) = (N_788 164 4) := by rw [hM_N_819, mu_k kd_164 kd_165 rfl]
                  exact ih_791 _ (by omega) (x3_787 + 1) N_819 hI_N_819 hF_N_819 (YY.st hp_794 hM_N_819 kd_165 rfl) (by rw [show N_819 164 = N_788 164 from funext (fun i => by rw [hM_N_819, mu_k kd_164 kd_165 rfl])]; exact hp_795) (by rw [show N_819 164 = N_788 164 from funext (fun i => by rw [hM_N_819, mu_k kd_164 kd_165 rfl])]; exact hp_796) (fun i h1 h2 => by rw [hM_N_819, mu_k kd_164 kd_165 rfl]; exact hp_797 i h1 h2) (by omega) rfl
              have h3q : N_712 164 3 = q 3 := by have h := hp_718.1 3 (by decide) (by omega); exact h.trans hq3
              have h4q : N_712 164 4 = -1 := by have h := hp_718.1 4 (by decide) (by omega); exact h.trans hy.2.1.2.2.2.2.2.2.2.2.2.2.2.2
              have h_828 := Inv.g hI_N_712 kd_163 rfl 18 (a := (-2147483648)) (b := 2147483647) rfl rfl
              have h_829 := Inv.g hI_N_712 kd_163 rfl 17 (a := (-2147483648)) (b := 2147483647) rfl rfl
              have h_830 := Inv.g hI_N_712 kd_163 rfl 10 (a := 0) (b := 900) rfl rfl
              exact L_789 _ 0 N_712 hI_N_712 hF_N_712 (YY.slot4 (YY.lo hY hI_M hp_427) hI_N_421 (hp_428.1 (by omega)) (hp_718.at (by omega))) (zRN.cp hy.2.1 (hp_718.at (by omega))) (zRU.cp hy.2.2.2.1 (hp_718.at (by omega)) hv.2) (fun i h1 h2 => (hp_718.2 i (by omega)).trans (hp_427 i h2)) (by omega) rfl
            · refine kx_aload_n 62 F 0 dX12_checker_61 rfl rfl rfl ?_
              refine kx_getr 65 F fl_X12_7 kd_163 rfl rfl (j := 0) rfl dX12_checker_62 (v := 164) (uq_164 (Inv.r hI_N_712 kd_163 rfl 0 rfl rfl)) rfl ?_
              refine kx_iload_n 66 F 3 dX12_checker_65 rfl rfl rfl ?_
              refine kx_aload_n 67 F 0 dX12_checker_66 rfl rfl rfl ?_
              refine kx_getr 70 F fl_X12_7 kd_163 rfl rfl (j := 0) rfl dX12_checker_67 (v := 164) (uq_164 (Inv.r hI_N_712 kd_163 rfl 0 rfl rfl)) rfl ?_
              refine kx_sipush 73 F dX12_checker_70 (by decide) rfl ?_
              refine kx_iload_n 74 F 3 dX12_checker_73 rfl rfl rfl ?_
              refine kx_iadd 75 F (v := x3_711 + 1088) dX12_checker_74 (by omega) rfl ?_
              refine kx_iald 76 F kd_164 rfl rfl (by omega) (by decide) dX12_checker_75 (v := (N_712 164 (x3_711 + 1088))) rfl rfl ?_
              have h_831 := Inv.g hI_N_712 kd_164 rfl (x3_711 + 1088) (a := atlo (x3_711 + 1088)) (b := athi (x3_711 + 1088)) rfl rfl
              have h_832 := at_w (x3_711 + 1088)
              refine kx_iast 77 F kd_164 rfl rfl (by omega) (by decide) dX12_checker_76 rfl ?_
              intro N_833 hM_N_833
              have h_834 := at_0 x3_711
              have h_835 := at_q x3_711 (x3_711 + 1088) (by omega)
              have hI_N_833 : Inv true N_833 := Inv.u hI_N_712 hM_N_833 kd_164 (a := atlo x3_711) (b := athi x3_711) rfl rfl rfl (by omega)
              have hF_N_833 : Fr f_e_checker2 M N_833 := Fr.u hF_N_712 hM_N_833 kd_164 rfl
              refine kx_iinc 80 F 3 (v := x3_711 + 1) (lo' := [some (vR G 163), none, none, some (vI (x3_711 + 1))]) dX12_checker_77 rfl (by omega) (by decide) rfl rfl rfl ?_
              refine kx_goto 54 F dX12_checker_80 (by decide) ?_
              have e_836 : (N_833 163 18) = (N_712 163 18) := by rw [hM_N_833, mu_k kd_163 kd_164 rfl]
              have h_837 := Inv.g hI_N_712 kd_163 rfl 18 (a := (-2147483648)) (b := 2147483647) rfl rfl
              have e_838 : (N_833 163 17) = (N_712 163 17) := by rw [hM_N_833, mu_k kd_163 kd_164 rfl]
              have h_839 := Inv.g hI_N_712 kd_163 rfl 17 (a := (-2147483648)) (b := 2147483647) rfl rfl
              have e_840 : (N_833 163 10) = (N_712 163 10) := by rw [hM_N_833, mu_k kd_163 kd_164 rfl]
              have h_841 := Inv.g hI_N_712 kd_163 rfl 10 (a := 0) (b := 900) rfl rfl
              exact ih_715 _ (by omega) (x3_711 + 1) N_833 hI_N_833 hF_N_833 (CPk.step hp_718 (by omega) hM_N_833 (by omega) rfl (by omega) (by omega) (by omega)) (by omega) rfl
          refine kx_drop 2 (lo' := [some (vR G 163), none, none, some (vI 0)]) rfl ?_
          have h_842 := Inv.g hI_N_421 kd_163 rfl 17 (a := (-2147483648)) (b := 2147483647) rfl rfl
          have h_843 := Inv.g hI_N_421 kd_163 rfl 10 (a := 0) (b := 900) rfl rfl
          exact L_713 _ 0 N_421 hI_N_421 hF_N_421 ((CPk.nil _ _).at (by omega)) (by omega) rfl
        · have htk : ¬ tk Bt j = 0 := by have h := hy.1.u; omega
          refine kx_aload_n 38 F 0 dX12_checker_37 rfl rfl rfl ?_
          have h_844 := Inv.g hI_N_421 kd_163 rfl 18 (a := (-2147483648)) (b := 2147483647) rfl rfl
          refine kx_Vi 41 (ci := 0) F (As := []) (st := []) vd_X12_276 (e_X12_checkerPart G l N_421  hI_N_421 (by omega) (hp_428.1 (by omega)) Bt hp_430 j (by omega) hy.1 htk t q hy.2.2.1 hy.2.1 hy.2.2.2.1 hv.2.hr) kd_163 rfl rfl rfl ⟨by decide, by decide⟩ rfl rfl (Nat.le_of_ble_eq_true rfl) dX12_checker_38 rfl ?_
          intro r_845 N_846 q_847
          obtain ⟨hI_N_846, hG_N_846, q_847c, ⟨hl_N_846, ⟨e_N_846, q_N_846, t_N_846, h0_N_846, h1_N_846⟩⟩⟩ := q_847
          have hF_N_846 : Fr f_e_checker2 M N_846 := Fr.c hF_N_421 hG_N_846 rfl
          have h_848 := Inv.g hI_N_846 kd_163 rfl 18 (a := (-2147483648)) (b := 2147483647) rfl rfl
          have h_849 := Inv.g hI_N_421 kd_163 rfl 17 (a := (-2147483648)) (b := 2147483647) rfl rfl
          have h_850 := Inv.g hI_N_846 kd_163 rfl 17 (a := (-2147483648)) (b := 2147483647) rfl rfl
          rcases q_847c with q_847c | q_847c
          · refine kx_istore_n 42 F 2 (lo' := [some (vR G 163), none, some (vI r_845), none]) dX12_checker_41 rfl (by decide) rfl rfl rfl ?_
            refine kx_goto 26 F dX12_checker_42 (by decide) ?_
            have ha := h1_N_846 (by omega)
            have hm2 := zPS.t (i := e_N_846 + 1) ha.1 (TM.tx hb2.1 hI_N_2) (Inv.g hI_N_2 kd_163 rfl 11 (a := 0) (b := 900) rfl rfl).1 hv.1 rfl
            have hm3 := ha.2.1.u.1
            have h_852 := Inv.g hI_N_846 kd_163 rfl 13 (a := 0) (b := 900) rfl rfl
            have e_853 : (N_846 163 10) = (N_421 163 10) := by rw [Fr.e hG_N_846 kd_163 _ rfl]
            have h_854 := Inv.g hI_N_421 kd_163 rfl 10 (a := 0) (b := 900) rfl rfl
            exact ih_424 _ (by omega) r_845 N_846 hI_N_846 hF_N_846 (LO.trans hp_427 hl_N_846.1) ⟨fun h => (hl_N_846).2 h, fun h => by omega⟩ (zCK.next hCH (by omega) htk (fun h => absurd h (by omega)) (fun _ => ⟨ha.1, by omega, by omega, ha.2.1, ha.2.2.1, ha.2.2.2.1, ha.2.2.2.2⟩)) (TM.fr hp_430 hG_N_846 rfl) (by omega) rfl
          · refine kx_istore_n 42 F 2 (lo' := [some (vR G 163), none, some (vI r_845), none]) dX12_checker_41 rfl (by decide) rfl rfl rfl ?_
            refine kx_goto 26 F dX12_checker_42 (by decide) ?_
            have h_856 := Inv.g hI_N_846 kd_163 rfl 13 (a := 0) (b := 900) rfl rfl
            have e_857 : (N_846 163 10) = (N_421 163 10) := by rw [Fr.e hG_N_846 kd_163 _ rfl]
            have h_858 := Inv.g hI_N_421 kd_163 rfl 10 (a := 0) (b := 900) rfl rfl
            exact ih_424 _ (by omega) r_845 N_846 hI_N_846 hF_N_846 (LO.trans hp_427 hl_N_846.1) ⟨fun h => (hl_N_846).2 h, fun h => by omega⟩ (zCK.next (fk := 0) (fp := 0) (e := 0) (q2 := q) (t2 := t) hCH (by omega) htk (fun _ => h0_N_846 (by omega)) (fun h => absurd h (by omega))) (TM.fr hp_430 hG_N_846 rfl) (by omega) rfl
    refine kx_drop 1 (lo' := [some (vR G 163), none, some (vI 1), none]) rfl ?_
    have e_859 : (N_23 163 18) = (N_2 163 18) := by rw [Fr.e hG_N_23 kd_163 _ rfl]
    have e_860 : (N_23 163 17) = (N_2 163 17) := by rw [Fr.e hG_N_23 kd_163 _ rfl]
    have hp_861 : RT N_23 Bt 0 := RT.fr hb2.2 hG_N_23 rfl
    have e_862 : (N_23 163 13) = (N_2 163 13) := by rw [Fr.e hG_N_23 kd_163 _ rfl]
    have h_863 := Inv.g hI_N_2 kd_163 rfl 13 (a := 0) (b := 900) rfl rfl
    have e_865 : (N_23 163 10) = (N_2 163 10) := by rw [Fr.e hG_N_23 kd_163 _ rfl]
    exact L_422 _ 1 N_23 hI_N_23 hF_N_23 (LO.trans (LO.fr (LO.rf M) hG_N_2 rfl) hl_N_23.1) ⟨fun _ => hl_N_23.2, fun h => absurd rfl h⟩ (zCK.ini hp_861 hbq_N_23 (by omega) (by omega)) (TM.fr hb2.1 hG_N_23 rfl) (by omega) rfl
  · refine kx_if_ne 11 F 17 dX12_checker_8 (by decide) rfl (by omega) (fun h_866 => (by exfalso; omega)) (fun h_866 => ?_)
    refine kx_aload_n 12 F 0 dX12_checker_11 rfl rfl rfl ?_
    refine kx_iconst 13 F dX12_checker_12 rfl ?_
    refine kx_Vi 16 (ci := 0) F (As := [vI 1]) (st := []) vd_X12_123 (c_X12_refuse G l N_2 1 hI_N_2 (by omega)) kd_163 rfl rfl rfl ⟨by decide, by decide⟩ rfl rfl (Nat.le_of_ble_eq_true rfl) dX12_checker_13 rfl ?_
    intro r_867 N_868 q_869
    obtain ⟨hI_N_868, hG_N_868, q_869c⟩ := q_869
    have hF_N_868 : Fr f_e_checker2 M N_868 := Fr.c hF_N_2 hG_N_868 rfl
    subst q_869c
    have e_870 : (N_868 163 16) = (M 163 16) := by rw [Fr.e hG_N_868 kd_163 _ rfl, Fr.e hG_N_2 kd_163 _ rfl]
    have e_871 : (N_868 163 17) = (N_2 163 17) := by rw [Fr.e hG_N_868 kd_163 _ rfl]
    have e_872 : (N_868 163 10) = (N_2 163 10) := by rw [Fr.e hG_N_868 kd_163 _ rfl]
    exact kx_iret F hQ ⟨hI_N_868, hF_N_868, (Or.inl (by omega)), ⟨(YY.fr (YY.fr hY hG_N_2 rfl) hG_N_868 rfl), ⟨fun h1 h2 => by exfalso; omega, fun _ => (LO.fr (LO.fr (LO.rf M) hG_N_2 rfl) hG_N_868 rfl)⟩⟩⟩ dX12_checker_16
  · refine kx_if_ne 11 F 17 dX12_checker_8 (by decide) rfl (by omega) (fun h_877 => (by exfalso; omega)) (fun h_877 => ?_)
    refine kx_aload_n 12 F 0 dX12_checker_11 rfl rfl rfl ?_
    refine kx_iconst 13 F dX12_checker_12 rfl ?_
    refine kx_Vi 16 (ci := 0) F (As := [vI 1]) (st := []) vd_X12_123 (c_X12_refuse G l N_2 1 hI_N_2 (by omega)) kd_163 rfl rfl rfl ⟨by decide, by decide⟩ rfl rfl (Nat.le_of_ble_eq_true rfl) dX12_checker_13 rfl ?_
    intro r_878 N_879 q_880
    obtain ⟨hI_N_879, hG_N_879, q_880c⟩ := q_880
    have hF_N_879 : Fr f_e_checker2 M N_879 := Fr.c hF_N_2 hG_N_879 rfl
    subst q_880c
    have e_881 : (N_879 163 16) = (M 163 16) := by rw [Fr.e hG_N_879 kd_163 _ rfl, Fr.e hG_N_2 kd_163 _ rfl]
    have e_882 : (N_879 163 17) = (N_2 163 17) := by rw [Fr.e hG_N_879 kd_163 _ rfl]
    have e_883 : (N_879 163 10) = (N_2 163 10) := by rw [Fr.e hG_N_879 kd_163 _ rfl]
    exact kx_iret F hQ ⟨hI_N_879, hF_N_879, (Or.inr (Or.inl (by omega))), ⟨(YY.fr (YY.fr hY hG_N_2 rfl) hG_N_879 rfl), ⟨fun h1 h2 => by exfalso; omega, fun _ => (LO.fr (LO.fr (LO.rf M) hG_N_2 rfl) hG_N_879 rfl)⟩⟩⟩ dX12_checker_16
