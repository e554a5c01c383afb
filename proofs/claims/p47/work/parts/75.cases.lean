set_option maxHeartbeats 4000000 in
set_option maxRecDepth 100000 in
theorem lc_runs {G : KG} {X : KX} {l : Launch} {b L : Nat} {sq : Nat → Int32} {ce sl : Nat} (F : kF false G X l code RL 4 (some .boolean) room_1) (S : LSq X b L sq) (hL : L ≤ 3072) (hcr : ce ≤ 600000 ∧ sl ≤ 7302250) {M N : Mem} (hI : Inv false M) (hX : XX M) (hJ : Inv true N) (hY : YY N) (hm : Tie M N) {i : Int} (hi : 0 ≤ i ∧ i + 6 ≤ L) (K : ∀ M' N' : Mem, Inv false M' → XX M' → Inv true N' → YY N' → Tie M' N' → LJ G X ce sl M' N' 2050 [some (.ref b), some (vR G 0), some (vR G 163), some (vI i)] []) : LJ G X ce sl M N 1040 [some (.ref b), some (vR G 0), some (vR G 163), some (vI i)] [] := by
  obtain ⟨q, hV, hS, hU, hR, hT⟩ := hm.2.2.2.2.2.2.2.2.1.1
  refine kw_aload_n 1041 F 1 dL_law_1040 rfl rfl rfl ?_
  refine kw_aload_n 1042 F 0 dL_law_1041 rfl rfl rfl ?_
  refine kw_iload_n 1043 F 3 dL_law_1042 rfl rfl rfl ?_
  refine kw_iconst 1044 F dL_law_1043 rfl ?_
  refine kw_iadd 1045 F (v := i + 1) dL_law_1044 rfl rfl ?_
  refine kw_sld 1046 F S hL (z := i + 1) (by omega) dL_law_1045 rfl ?_
  have hs1 := sv_rng sq (i + 1)
  refine kw_aload_n 1047 F 0 dL_law_1046 rfl rfl rfl ?_
  refine kw_iload_n 1048 F 3 dL_law_1047 rfl rfl rfl ?_
  refine kw_iconst 1049 F dL_law_1048 rfl ?_
  refine kw_iadd 1050 F (v := i + 2) dL_law_1049 rfl rfl ?_
  refine kw_sld 1051 F S hL (z := i + 2) (by omega) dL_law_1050 rfl ?_
  have hs2 := sv_rng sq (i + 2)
  refine kw_aload_n 1052 F 0 dL_law_1051 rfl rfl rfl ?_
  refine kw_iload_n 1053 F 3 dL_law_1052 rfl rfl rfl ?_
  refine kw_iconst 1054 F dL_law_1053 rfl ?_
  refine kw_iadd 1055 F (v := i + 3) dL_law_1054 rfl rfl ?_
  refine kw_sld 1056 F S hL (z := i + 3) (by omega) dL_law_1055 rfl ?_
  have hs3 := sv_rng sq (i + 3)
  refine kw_VCi 1059 F (As := [vI (sv sq (i + 1)), vI (sv sq (i + 2)), vI (sv sq (i + 3))]) (st := []) vd_L_107 (e_runs3 G l M 0 (sv sq (i + 1)) (sv sq (i + 2)) (sv sq (i + 3)) hI kd_0 (by omega) q hS hU) kd_0 rfl rfl rfl ⟨by decide, by decide⟩ rfl rfl (Nat.le_of_ble_eq_true rfl) dL_law_1056 rfl hcr ?_
  intro r4 U5 q6
  obtain ⟨hiU5, hfU5, q6, huU5⟩ := q6
  have hxU5 : XX U5 := XX.fr hX hI hfU5 rfl
  refine kw_pop 1060 F dL_law_1059 rfl rfl ?_
  refine kw_aload_n 1061 F 2 dL_law_1060 rfl rfl rfl ?_
  refine kw_aload_n 1062 F 0 dL_law_1061 rfl rfl rfl ?_
  refine kw_iload_n 1063 F 3 dL_law_1062 rfl rfl rfl ?_
  refine kw_iconst 1064 F dL_law_1063 rfl ?_
  refine kw_iadd 1065 F (v := i + 1) dL_law_1064 rfl rfl ?_
  refine kw_sld 1066 F S hL (z := i + 1) (by omega) dL_law_1065 rfl ?_
  refine kw_aload_n 1067 F 0 dL_law_1066 rfl rfl rfl ?_
  refine kw_iload_n 1068 F 3 dL_law_1067 rfl rfl rfl ?_
  refine kw_iconst 1069 F dL_law_1068 rfl ?_
  refine kw_iadd 1070 F (v := i + 2) dL_law_1069 rfl rfl ?_
  refine kw_sld 1071 F S hL (z := i + 2) (by omega) dL_law_1070 rfl ?_
  refine kw_aload_n 1072 F 0 dL_law_1071 rfl rfl rfl ?_
  refine kw_iload_n 1073 F 3 dL_law_1072 rfl rfl rfl ?_
  refine kw_iconst 1074 F dL_law_1073 rfl ?_
  refine kw_iadd 1075 F (v := i + 3) dL_law_1074 rfl rfl ?_
  refine kw_sld 1076 F S hL (z := i + 3) (by omega) dL_law_1075 rfl ?_
  refine kw_VMi 1079 F (As := [vI (sv sq (i + 1)), vI (sv sq (i + 2)), vI (sv sq (i + 3))]) (st := []) vd_L_110 (e_runs3m G l N (sv sq (i + 1)) (sv sq (i + 2)) (sv sq (i + 3)) hJ (by omega) q hR hT) kd_163 rfl rfl rfl ⟨by decide, by decide⟩ rfl rfl (Nat.le_of_ble_eq_true rfl) dL_law_1076 rfl hcr ?_
  intro r10 U11 q12
  obtain ⟨hiU11, hfU11, q12, huU11⟩ := q12
  have hyU11 : YY U11 := YY.fr hY hfU11 rfl
  have eT := at_T hI
  have eP := at_P hI
  have eV := at_V hI
  rw [eT, eV, eP, hm.2.2.2.2.2.2.2.2.2.1, hm.2.2.1, hS.u.2.2.1] at huU5
  rw [hR.u.1, hR.u.2.1, hR.u.2.2.1] at huU11
  have he := zRNS.u huU5 huU11
  have ht : Tie U5 U11 := (Tie.m (Tie.c hm hI hfU5 rfl) hJ hfU11 rfl hiU5 (fun i => congrFun (Fr.fn hfU11 kd_164 rfl) i))
  refine kw_pop 1080 F dL_law_1079 rfl rfl ?_
  refine kw_goto 2050 F dL_law_1080 (by decide) ?_
  exact K U5 U11 hiU5 hxU5 hiU11 hyU11 ht
set_option maxHeartbeats 4000000 in
set_option maxRecDepth 100000 in
theorem lc_depth {G : KG} {X : KX} {l : Launch} {b L : Nat} {sq : Nat → Int32} {ce sl : Nat} (F : kF false G X l code RL 4 (some .boolean) room_1) (S : LSq X b L sq) (hL : L ≤ 3072) (hcr : ce ≤ 600000 ∧ sl ≤ 7302250) {M N : Mem} (hI : Inv false M) (hX : XX M) (hJ : Inv true N) (hY : YY N) (hm : Tie M N) {i : Int} (hi : 0 ≤ i ∧ i + 6 ≤ L) (K : ∀ M' N' : Mem, Inv false M' → XX M' → Inv true N' → YY N' → Tie M' N' → LJ G X ce sl M' N' 2050 [some (.ref b), some (vR G 0), some (vR G 163), some (vI i)] []) : LJ G X ce sl M N 1083 [some (.ref b), some (vR G 0), some (vR G 163), some (vI i)] [] := by
  obtain ⟨q, hV, hS, hU, hR, hT⟩ := hm.2.2.2.2.2.2.2.2.1.1
  refine kw_aload_n 1084 F 1 dL_law_1083 rfl rfl rfl ?_
  refine kw_aload_n 1085 F 0 dL_law_1084 rfl rfl rfl ?_
  refine kw_iload_n 1086 F 3 dL_law_1085 rfl rfl rfl ?_
  refine kw_iconst 1087 F dL_law_1086 rfl ?_
  refine kw_iadd 1088 F (v := i + 1) dL_law_1087 rfl rfl ?_
  refine kw_sld 1089 F S hL (z := i + 1) (by omega) dL_law_1088 rfl ?_
  have hs1 := sv_rng sq (i + 1)
  refine kw_aload_n 1090 F 0 dL_law_1089 rfl rfl rfl ?_
  refine kw_iload_n 1091 F 3 dL_law_1090 rfl rfl rfl ?_
  refine kw_iconst 1092 F dL_law_1091 rfl ?_
  refine kw_iadd 1093 F (v := i + 2) dL_law_1092 rfl rfl ?_
  refine kw_sld 1094 F S hL (z := i + 2) (by omega) dL_law_1093 rfl ?_
  have hs2 := sv_rng sq (i + 2)
  refine kw_aload_n 1095 F 0 dL_law_1094 rfl rfl rfl ?_
  refine kw_iload_n 1096 F 3 dL_law_1095 rfl rfl rfl ?_
  refine kw_iconst 1097 F dL_law_1096 rfl ?_
  refine kw_iadd 1098 F (v := i + 3) dL_law_1097 rfl rfl ?_
  refine kw_sld 1099 F S hL (z := i + 3) (by omega) dL_law_1098 rfl ?_
  have hs3 := sv_rng sq (i + 3)
  refine kw_VCi 1102 F (As := [vI (sv sq (i + 1)), vI (sv sq (i + 2)), vI (sv sq (i + 3))]) (st := []) vd_L_111 (e_depth3 G l M 0 (sv sq (i + 1)) (sv sq (i + 2)) (sv sq (i + 3)) hI kd_0 (by omega)) kd_0 rfl rfl rfl ⟨by decide, by decide⟩ rfl rfl (Nat.le_of_ble_eq_true rfl) dL_law_1099 rfl hcr ?_
  intro r4 U5 q6
  obtain ⟨hiU5, hfU5, q6, huU5⟩ := q6
  have hxU5 : XX U5 := XX.fr hX hI hfU5 rfl
  refine kw_pop 1103 F dL_law_1102 rfl rfl ?_
  refine kw_aload_n 1104 F 2 dL_law_1103 rfl rfl rfl ?_
  refine kw_aload_n 1105 F 0 dL_law_1104 rfl rfl rfl ?_
  refine kw_iload_n 1106 F 3 dL_law_1105 rfl rfl rfl ?_
  refine kw_iconst 1107 F dL_law_1106 rfl ?_
  refine kw_iadd 1108 F (v := i + 1) dL_law_1107 rfl rfl ?_
  refine kw_sld 1109 F S hL (z := i + 1) (by omega) dL_law_1108 rfl ?_
  refine kw_aload_n 1110 F 0 dL_law_1109 rfl rfl rfl ?_
  refine kw_iload_n 1111 F 3 dL_law_1110 rfl rfl rfl ?_
  refine kw_iconst 1112 F dL_law_1111 rfl ?_
  refine kw_iadd 1113 F (v := i + 2) dL_law_1112 rfl rfl ?_
  refine kw_sld 1114 F S hL (z := i + 2) (by omega) dL_law_1113 rfl ?_
  refine kw_aload_n 1115 F 0 dL_law_1114 rfl rfl rfl ?_
  refine kw_iload_n 1116 F 3 dL_law_1115 rfl rfl rfl ?_
  refine kw_iconst 1117 F dL_law_1116 rfl ?_
  refine kw_iadd 1118 F (v := i + 3) dL_law_1117 rfl rfl ?_
  refine kw_sld 1119 F S hL (z := i + 3) (by omega) dL_law_1118 rfl ?_
  refine kw_VMi 1122 F (As := [vI (sv sq (i + 1)), vI (sv sq (i + 2)), vI (sv sq (i + 3))]) (st := []) vd_L_114 (e_depth3m G l N (sv sq (i + 1)) (sv sq (i + 2)) (sv sq (i + 3)) hJ (by omega)) kd_163 rfl rfl rfl ⟨by decide, by decide⟩ rfl rfl (Nat.le_of_ble_eq_true rfl) dL_law_1119 rfl hcr ?_
  intro r10 U11 q12
  obtain ⟨hiU11, hfU11, q12, huU11⟩ := q12
  have hyU11 : YY U11 := YY.fr hY hfU11 rfl
  have eT := at_T hI
  have eP := at_P hI
  have eV := at_V hI
  rw [eT, eV, eP, hm.2.2.2.2.2.2.2.2.2.1, hm.2.2.1, hS.u.1, hS.u.2.1, hS.u.2.2.1] at huU5
  rw [hR.u.1, hR.u.2.1, hR.u.2.2.1] at huU11
  have he := zDE.u huU5 huU11
  have ht : Tie U5 U11 := (Tie.m (Tie.c hm hI hfU5 rfl) hJ hfU11 rfl hiU5 (fun i => congrFun (Fr.fn hfU11 kd_164 rfl) i))
  refine kw_pop 1123 F dL_law_1122 rfl rfl ?_
  refine kw_goto 2050 F dL_law_1123 (by decide) ?_
  exact K U5 U11 hiU5 hxU5 hiU11 hyU11 ht
set_option maxHeartbeats 4000000 in
set_option maxRecDepth 100000 in
theorem lc_partner {G : KG} {X : KX} {l : Launch} {b L : Nat} {sq : Nat → Int32} {ce sl : Nat} (F : kF false G X l code RL 4 (some .boolean) room_1) (S : LSq X b L sq) (hL : L ≤ 3072) (hcr : ce ≤ 600000 ∧ sl ≤ 7302250) {M N : Mem} (hI : Inv false M) (hX : XX M) (hJ : Inv true N) (hY : YY N) (hm : Tie M N) {i : Int} (hi : 0 ≤ i ∧ i + 6 ≤ L) (K : ∀ M' N' : Mem, Inv false M' → XX M' → Inv true N' → YY N' → Tie M' N' → LJ G X ce sl M' N' 2050 [some (.ref b), some (vR G 0), some (vR G 163), some (vI i)] []) : LJ G X ce sl M N 1126 [some (.ref b), some (vR G 0), some (vR G 163), some (vI i)] [] := by
  obtain ⟨q, hV, hS, hU, hR, hT⟩ := hm.2.2.2.2.2.2.2.2.1.1
  refine kw_aload_n 1127 F 1 dL_law_1126 rfl rfl rfl ?_
  refine kw_aload_n 1128 F 0 dL_law_1127 rfl rfl rfl ?_
  refine kw_iload_n 1129 F 3 dL_law_1128 rfl rfl rfl ?_
  refine kw_iconst 1130 F dL_law_1129 rfl ?_
  refine kw_iadd 1131 F (v := i + 1) dL_law_1130 rfl rfl ?_
  refine kw_sld 1132 F S hL (z := i + 1) (by omega) dL_law_1131 rfl ?_
  have hs1 := sv_rng sq (i + 1)
  refine kw_aload_n 1133 F 0 dL_law_1132 rfl rfl rfl ?_
  refine kw_iload_n 1134 F 3 dL_law_1133 rfl rfl rfl ?_
  refine kw_iconst 1135 F dL_law_1134 rfl ?_
  refine kw_iadd 1136 F (v := i + 2) dL_law_1135 rfl rfl ?_
  refine kw_sld 1137 F S hL (z := i + 2) (by omega) dL_law_1136 rfl ?_
  have hs2 := sv_rng sq (i + 2)
  refine kw_aload_n 1138 F 0 dL_law_1137 rfl rfl rfl ?_
  refine kw_iload_n 1139 F 3 dL_law_1138 rfl rfl rfl ?_
  refine kw_iconst 1140 F dL_law_1139 rfl ?_
  refine kw_iadd 1141 F (v := i + 3) dL_law_1140 rfl rfl ?_
  refine kw_sld 1142 F S hL (z := i + 3) (by omega) dL_law_1141 rfl ?_
  have hs3 := sv_rng sq (i + 3)
  refine kw_VCi 1145 F (As := [vI (sv sq (i + 1)), vI (sv sq (i + 2)), vI (sv sq (i + 3))]) (st := []) vd_L_115 (e_partner3 G l M 0 (sv sq (i + 1)) (sv sq (i + 2)) (sv sq (i + 3)) hI kd_0 (by omega)) kd_0 rfl rfl rfl ⟨by decide, by decide⟩ rfl rfl (Nat.le_of_ble_eq_true rfl) dL_law_1142 rfl hcr ?_
  intro r4 U5 q6
  obtain ⟨hiU5, hfU5, q6, huU5⟩ := q6
  have hxU5 : XX U5 := XX.fr hX hI hfU5 rfl
  refine kw_pop 1146 F dL_law_1145 rfl rfl ?_
  refine kw_aload_n 1147 F 2 dL_law_1146 rfl rfl rfl ?_
  refine kw_aload_n 1148 F 0 dL_law_1147 rfl rfl rfl ?_
  refine kw_iload_n 1149 F 3 dL_law_1148 rfl rfl rfl ?_
  refine kw_iconst 1150 F dL_law_1149 rfl ?_
  refine kw_iadd 1151 F (v := i + 1) dL_law_1150 rfl rfl ?_
  refine kw_sld 1152 F S hL (z := i + 1) (by omega) dL_law_1151 rfl ?_
  refine kw_aload_n 1153 F 0 dL_law_1152 rfl rfl rfl ?_
  refine kw_iload_n 1154 F 3 dL_law_1153 rfl rfl rfl ?_
  refine kw_iconst 1155 F dL_law_1154 rfl ?_
  refine kw_iadd 1156 F (v := i + 2) dL_law_1155 rfl rfl ?_
  refine kw_sld 1157 F S hL (z := i + 2) (by omega) dL_law_1156 rfl ?_
  refine kw_aload_n 1158 F 0 dL_law_1157 rfl rfl rfl ?_
  refine kw_iload_n 1159 F 3 dL_law_1158 rfl rfl rfl ?_
  refine kw_iconst 1160 F dL_law_1159 rfl ?_
  refine kw_iadd 1161 F (v := i + 3) dL_law_1160 rfl rfl ?_
  refine kw_sld 1162 F S hL (z := i + 3) (by omega) dL_law_1161 rfl ?_
  refine kw_VMi 1165 F (As := [vI (sv sq (i + 1)), vI (sv sq (i + 2)), vI (sv sq (i + 3))]) (st := []) vd_L_118 (e_partner3m G l N (sv sq (i + 1)) (sv sq (i + 2)) (sv sq (i + 3)) hJ (by omega)) kd_163 rfl rfl rfl ⟨by decide, by decide⟩ rfl rfl (Nat.le_of_ble_eq_true rfl) dL_law_1162 rfl hcr ?_
  intro r10 U11 q12
  obtain ⟨hiU11, hfU11, q12, huU11⟩ := q12
  have hyU11 : YY U11 := YY.fr hY hfU11 rfl
  have eT := at_T hI
  have eP := at_P hI
  have eV := at_V hI
  rw [eT, eV, eP, hm.2.2.2.2.2.2.2.2.2.1, hm.2.2.1, hS.u.1, hS.u.2.1, hS.u.2.2.1] at huU5
  rw [hR.u.1, hR.u.2.1, hR.u.2.2.1] at huU11
  have he := zPE.u huU5 huU11
  have ht : Tie U5 U11 := (Tie.m (Tie.c hm hI hfU5 rfl) hJ hfU11 rfl hiU5 (fun i => congrFun (Fr.fn hfU11 kd_164 rfl) i))
  refine kw_pop 1166 F dL_law_1165 rfl rfl ?_
  refine kw_goto 2050 F dL_law_1166 (by decide) ?_
  exact K U5 U11 hiU5 hxU5 hiU11 hyU11 ht
set_option maxHeartbeats 4000000 in
set_option maxRecDepth 100000 in
theorem lc_table {G : KG} {X : KX} {l : Launch} {b L : Nat} {sq : Nat → Int32} {ce sl : Nat} (F : kF false G X l code RL 4 (some .boolean) room_1) (S : LSq X b L sq) (hL : L ≤ 3072) (hcr : ce ≤ 600000 ∧ sl ≤ 7302250) {M N : Mem} (hI : Inv false M) (hX : XX M) (hJ : Inv true N) (hY : YY N) (hm : Tie M N) {i : Int} (hi : 0 ≤ i ∧ i + 6 ≤ L) (K : ∀ M' N' : Mem, Inv false M' → XX M' → Inv true N' → YY N' → Tie M' N' → LJ G X ce sl M' N' 2050 [some (.ref b), some (vR G 0), some (vR G 163), some (vI i)] []) : LJ G X ce sl M N 1169 [some (.ref b), some (vR G 0), some (vR G 163), some (vI i)] [] := by
  obtain ⟨q, hV, hS, hU, hR, hT⟩ := hm.2.2.2.2.2.2.2.2.1.1
  have hF : zTF M 0 := hm.2.2.2.2.2.2.2.2.2.2.2.2.1
  have hK : zTC M 0 q := hm.2.2.2.2.2.2.2.2.2.2.2.2.2 q hV hR hT
  have hC : zQC q := zQC.of hm.2.2.2.2.2.2.2.2.2.2.1.1 hV hR hT
  refine kw_aload_n 1170 F 1 dL_law_1169 rfl rfl rfl ?_
  refine kw_aload_n 1171 F 0 dL_law_1170 rfl rfl rfl ?_
  refine kw_iload_n 1172 F 3 dL_law_1171 rfl rfl rfl ?_
  refine kw_iconst 1173 F dL_law_1172 rfl ?_
  refine kw_iadd 1174 F (v := i + 1) dL_law_1173 rfl rfl ?_
  refine kw_sld 1175 F S hL (z := i + 1) (by omega) dL_law_1174 rfl ?_
  have hs1 := sv_rng sq (i + 1)
  refine kw_VCi 1178 F (As := [vI (sv sq (i + 1))]) (st := []) vd_L_119 (e_table3 G l M 0 (sv sq (i + 1)) hI kd_0 (by omega) hX q hS hU hF hK) kd_0 rfl rfl rfl ⟨by decide, by decide⟩ rfl rfl (Nat.le_of_ble_eq_true rfl) dL_law_1175 rfl hcr ?_
  intro r2 U3 q4
  obtain ⟨hiU3, hfU3, q4, hxU3, huU3⟩ := q4
  refine kw_pop 1179 F dL_law_1178 rfl rfl ?_
  refine kw_aload_n 1180 F 2 dL_law_1179 rfl rfl rfl ?_
  refine kw_aload_n 1181 F 0 dL_law_1180 rfl rfl rfl ?_
  refine kw_iload_n 1182 F 3 dL_law_1181 rfl rfl rfl ?_
  refine kw_iconst 1183 F dL_law_1182 rfl ?_
  refine kw_iadd 1184 F (v := i + 1) dL_law_1183 rfl rfl ?_
  refine kw_sld 1185 F S hL (z := i + 1) (by omega) dL_law_1184 rfl ?_
  refine kw_VMi 1188 F (As := [vI (sv sq (i + 1))]) (st := []) vd_L_122 (e_table3m G l N (sv sq (i + 1)) hJ (by omega) q hR hT hC) kd_163 rfl rfl rfl ⟨by decide, by decide⟩ rfl rfl (Nat.le_of_ble_eq_true rfl) dL_law_1185 rfl hcr ?_
  intro r6 U7 q8
  obtain ⟨hiU7, hfU7, q8, huU7⟩ := q8
  have hyU7 : YY U7 := YY.fr hY hfU7 rfl
  obtain ⟨tM1, tM2⟩ := huU3
  have he := zTBL.u tM1 huU7
  have ht : Tie U3 U7 := ⟨(Fr.e hfU3 kd_0 7 rfl).trans (hm.1.trans (Fr.e hfU7 kd_163 50 rfl).symm), (Fr.e hfU3 kd_x5 1 rfl).trans (hm.2.1.trans (Fr.e hfU7 kd_163 10 rfl).symm), (Fr.fn hfU3 kd_x4 rfl).trans (hm.2.2.1.trans (Fr.fn hfU7 kd_y6 rfl).symm), (Fr.fn hfU3 kd_x3 rfl).trans (hm.2.2.2.1.trans (Fr.fn hfU7 kd_y5 rfl).symm), (Fr.fn hfU3 kd_x6 rfl).trans (hm.2.2.2.2.1.trans (Fr.fn hfU7 kd_169 rfl).symm), (Fr.e hfU3 kd_x5 2 rfl).trans (hm.2.2.2.2.2.1.trans (Fr.e hfU7 kd_163 16 rfl).symm), (Fr.e hfU3 kd_x5 3 rfl).trans (hm.2.2.2.2.2.2.1.trans (Fr.e hfU7 kd_163 17 rfl).symm), FZ.fr hm.2.2.2.2.2.2.2.1 hfU3 rfl, (zTS.m (zTS.c hm.2.2.2.2.2.2.2.2.1 hI hfU3 rfl) (fun i _ _ _ => congrFun (Fr.fn hfU7 kd_164 rfl) i)), (Fr.fn hfU3 kd_x2 rfl).trans (hm.2.2.2.2.2.2.2.2.2.1.trans (Fr.fn hfU7 kd_y7 rfl).symm), (zTQ.m (zTQ.c hm.2.2.2.2.2.2.2.2.2.2.1 (Fr.e hfU3 kd_0 7 rfl)) hJ (fun i _ _ _ => congrFun (Fr.fn hfU7 kd_164 rfl) i)), (zTW.m (zTW.c hm.2.2.2.2.2.2.2.2.2.2.2.1 hI hm.2.2.2.2.2.2.2.1 hfU3 rfl) hiU3 (FZ.fr hm.2.2.2.2.2.2.2.1 hfU3 rfl) (fun i _ => congrFun (Fr.fn hfU7 kd_164 rfl) i)), (zTL.q hm.2.2.2.2.2.2.2.2.2.2.2.2 hfU3 rfl tM2 (by rw [Fr.fn hfU7 kd_164 rfl]; exact hR) (by rw [Fr.fn hfU7 kd_164 rfl]; exact hT))⟩
  refine kw_pop 1189 F dL_law_1188 rfl rfl ?_
  refine kw_goto 2050 F dL_law_1189 (by decide) ?_
  exact K U3 U7 hiU3 hxU3 hiU7 hyU7 ht
set_option maxHeartbeats 4000000 in
set_option maxRecDepth 100000 in
theorem lc_summary {G : KG} {X : KX} {l : Launch} {b L : Nat} {sq : Nat → Int32} {ce sl : Nat} (F : kF false G X l code RL 4 (some .boolean) room_1) (S : LSq X b L sq) (hL : L ≤ 3072) (hcr : ce ≤ 600000 ∧ sl ≤ 7302250) {M N : Mem} (hI : Inv false M) (hX : XX M) (hJ : Inv true N) (hY : YY N) (hm : Tie M N) {i : Int} (hi : 0 ≤ i ∧ i + 6 ≤ L) (K : ∀ M' N' : Mem, Inv false M' → XX M' → Inv true N' → YY N' → Tie M' N' → LJ G X ce sl M' N' 2050 [some (.ref b), some (vR G 0), some (vR G 163), some (vI i)] []) : LJ G X ce sl M N 1192 [some (.ref b), some (vR G 0), some (vR G 163), some (vI i)] [] := by
  obtain ⟨q, hV, hS, hU, hR, hT⟩ := hm.2.2.2.2.2.2.2.2.1.1
  have hF : zTF M 0 := hm.2.2.2.2.2.2.2.2.2.2.2.2.1
  have hK : zTC M 0 q := hm.2.2.2.2.2.2.2.2.2.2.2.2.2 q hV hR hT
  have hC : zQC q := zQC.of hm.2.2.2.2.2.2.2.2.2.2.1.1 hV hR hT
  refine kw_aload_n 1193 F 1 dL_law_1192 rfl rfl rfl ?_
  refine kw_aload_n 1194 F 0 dL_law_1193 rfl rfl rfl ?_
  refine kw_iload_n 1195 F 3 dL_law_1194 rfl rfl rfl ?_
  refine kw_iconst 1196 F dL_law_1195 rfl ?_
  refine kw_iadd 1197 F (v := i + 1) dL_law_1196 rfl rfl ?_
  refine kw_sld 1198 F S hL (z := i + 1) (by omega) dL_law_1197 rfl ?_
  have hs1 := sv_rng sq (i + 1)
  refine kw_aload_n 1199 F 0 dL_law_1198 rfl rfl rfl ?_
  refine kw_iload_n 1200 F 3 dL_law_1199 rfl rfl rfl ?_
  refine kw_iconst 1201 F dL_law_1200 rfl ?_
  refine kw_iadd 1202 F (v := i + 2) dL_law_1201 rfl rfl ?_
  refine kw_sld 1203 F S hL (z := i + 2) (by omega) dL_law_1202 rfl ?_
  have hs2 := sv_rng sq (i + 2)
  refine kw_aload_n 1204 F 0 dL_law_1203 rfl rfl rfl ?_
  refine kw_iload_n 1205 F 3 dL_law_1204 rfl rfl rfl ?_
  refine kw_iconst 1206 F dL_law_1205 rfl ?_
  refine kw_iadd 1207 F (v := i + 3) dL_law_1206 rfl rfl ?_
  refine kw_sld 1208 F S hL (z := i + 3) (by omega) dL_law_1207 rfl ?_
  have hs3 := sv_rng sq (i + 3)
  refine kw_VCi 1211 F (As := [vI (sv sq (i + 1)), vI (sv sq (i + 2)), vI (sv sq (i + 3))]) (st := []) vd_L_123 (e_summary3 G l M 0 (sv sq (i + 1)) (sv sq (i + 2)) (sv sq (i + 3)) hI kd_0 (by omega) hX q hS hU hF hK) kd_0 rfl rfl rfl ⟨by decide, by decide⟩ rfl rfl (Nat.le_of_ble_eq_true rfl) dL_law_1208 rfl hcr ?_
  intro r4 U5 q6
  obtain ⟨hiU5, hfU5, q6, hxU5, huU5⟩ := q6
  refine kw_pop 1212 F dL_law_1211 rfl rfl ?_
  refine kw_aload_n 1213 F 2 dL_law_1212 rfl rfl rfl ?_
  refine kw_aload_n 1214 F 0 dL_law_1213 rfl rfl rfl ?_
  refine kw_iload_n 1215 F 3 dL_law_1214 rfl rfl rfl ?_
  refine kw_iconst 1216 F dL_law_1215 rfl ?_
  refine kw_iadd 1217 F (v := i + 1) dL_law_1216 rfl rfl ?_
  refine kw_sld 1218 F S hL (z := i + 1) (by omega) dL_law_1217 rfl ?_
  refine kw_aload_n 1219 F 0 dL_law_1218 rfl rfl rfl ?_
  refine kw_iload_n 1220 F 3 dL_law_1219 rfl rfl rfl ?_
  refine kw_iconst 1221 F dL_law_1220 rfl ?_
  refine kw_iadd 1222 F (v := i + 2) dL_law_1221 rfl rfl ?_
  refine kw_sld 1223 F S hL (z := i + 2) (by omega) dL_law_1222 rfl ?_
  refine kw_aload_n 1224 F 0 dL_law_1223 rfl rfl rfl ?_
  refine kw_iload_n 1225 F 3 dL_law_1224 rfl rfl rfl ?_
  refine kw_iconst 1226 F dL_law_1225 rfl ?_
  refine kw_iadd 1227 F (v := i + 3) dL_law_1226 rfl rfl ?_
  refine kw_sld 1228 F S hL (z := i + 3) (by omega) dL_law_1227 rfl ?_
  refine kw_VMi 1231 F (As := [vI (sv sq (i + 1)), vI (sv sq (i + 2)), vI (sv sq (i + 3))]) (st := []) vd_L_126 (e_summary3m G l N (sv sq (i + 1)) (sv sq (i + 2)) (sv sq (i + 3)) hJ (by omega) q hR hT hC) kd_163 rfl rfl rfl ⟨by decide, by decide⟩ rfl rfl (Nat.le_of_ble_eq_true rfl) dL_law_1228 rfl hcr ?_
  intro r10 U11 q12
  obtain ⟨hiU11, hfU11, q12, huU11⟩ := q12
  have hyU11 : YY U11 := YY.fr hY hfU11 rfl
  obtain ⟨tM1, tM2⟩ := huU5
  have he := zSUM.u tM1 huU11
  have ht : Tie U5 U11 := ⟨(Fr.e hfU5 kd_0 7 rfl).trans (hm.1.trans (Fr.e hfU11 kd_163 50 rfl).symm), (Fr.e hfU5 kd_x5 1 rfl).trans (hm.2.1.trans (Fr.e hfU11 kd_163 10 rfl).symm), (Fr.fn hfU5 kd_x4 rfl).trans (hm.2.2.1.trans (Fr.fn hfU11 kd_y6 rfl).symm), (Fr.fn hfU5 kd_x3 rfl).trans (hm.2.2.2.1.trans (Fr.fn hfU11 kd_y5 rfl).symm), (Fr.fn hfU5 kd_x6 rfl).trans (hm.2.2.2.2.1.trans (Fr.fn hfU11 kd_169 rfl).symm), (Fr.e hfU5 kd_x5 2 rfl).trans (hm.2.2.2.2.2.1.trans (Fr.e hfU11 kd_163 16 rfl).symm), (Fr.e hfU5 kd_x5 3 rfl).trans (hm.2.2.2.2.2.2.1.trans (Fr.e hfU11 kd_163 17 rfl).symm), FZ.fr hm.2.2.2.2.2.2.2.1 hfU5 rfl, (zTS.m (zTS.c hm.2.2.2.2.2.2.2.2.1 hI hfU5 rfl) (fun i _ _ _ => congrFun (Fr.fn hfU11 kd_164 rfl) i)), (Fr.fn hfU5 kd_x2 rfl).trans (hm.2.2.2.2.2.2.2.2.2.1.trans (Fr.fn hfU11 kd_y7 rfl).symm), (zTQ.m (zTQ.c hm.2.2.2.2.2.2.2.2.2.2.1 (Fr.e hfU5 kd_0 7 rfl)) hJ (fun i _ _ _ => congrFun (Fr.fn hfU11 kd_164 rfl) i)), (zTW.m (zTW.c hm.2.2.2.2.2.2.2.2.2.2.2.1 hI hm.2.2.2.2.2.2.2.1 hfU5 rfl) hiU5 (FZ.fr hm.2.2.2.2.2.2.2.1 hfU5 rfl) (fun i _ => congrFun (Fr.fn hfU11 kd_164 rfl) i)), (zTL.q hm.2.2.2.2.2.2.2.2.2.2.2.2 hfU5 rfl tM2 (by rw [Fr.fn hfU11 kd_164 rfl]; exact hR) (by rw [Fr.fn hfU11 kd_164 rfl]; exact hT))⟩
  refine kw_pop 1232 F dL_law_1231 rfl rfl ?_
  refine kw_goto 2050 F dL_law_1232 (by decide) ?_
  exact K U5 U11 hiU5 hxU5 hiU11 hyU11 ht
set_option maxHeartbeats 4000000 in
set_option maxRecDepth 100000 in
theorem lc_next {G : KG} {X : KX} {l : Launch} {b L : Nat} {sq : Nat → Int32} {ce sl : Nat} (F : kF false G X l code RL 4 (some .boolean) room_1) (S : LSq X b L sq) (hL : L ≤ 3072) (hcr : ce ≤ 600000 ∧ sl ≤ 7302250) {M N : Mem} (hI : Inv false M) (hX : XX M) (hJ : Inv true N) (hY : YY N) (hm : Tie M N) {i : Int} (hi : 0 ≤ i ∧ i + 6 ≤ L) (K : ∀ M' N' : Mem, Inv false M' → XX M' → Inv true N' → YY N' → Tie M' N' → LJ G X ce sl M' N' 2050 [some (.ref b), some (vR G 0), some (vR G 163), some (vI i)] []) : LJ G X ce sl M N 1235 [some (.ref b), some (vR G 0), some (vR G 163), some (vI i)] [] := by
  obtain ⟨q, hV, hS, hU, hR, hT⟩ := hm.2.2.2.2.2.2.2.2.1.1
  have hF : zTF M 0 := hm.2.2.2.2.2.2.2.2.2.2.2.2.1
  have hK : zTC M 0 q := hm.2.2.2.2.2.2.2.2.2.2.2.2.2 q hV hR hT
  have hC : zQC q := zQC.of hm.2.2.2.2.2.2.2.2.2.2.1.1 hV hR hT
  refine kw_aload_n 1236 F 1 dL_law_1235 rfl rfl rfl ?_
  refine kw_aload_n 1237 F 0 dL_law_1236 rfl rfl rfl ?_
  refine kw_iload_n 1238 F 3 dL_law_1237 rfl rfl rfl ?_
  refine kw_iconst 1239 F dL_law_1238 rfl ?_
  refine kw_iadd 1240 F (v := i + 1) dL_law_1239 rfl rfl ?_
  refine kw_sld 1241 F S hL (z := i + 1) (by omega) dL_law_1240 rfl ?_
  have hs1 := sv_rng sq (i + 1)
  refine kw_aload_n 1242 F 0 dL_law_1241 rfl rfl rfl ?_
  refine kw_iload_n 1243 F 3 dL_law_1242 rfl rfl rfl ?_
  refine kw_iconst 1244 F dL_law_1243 rfl ?_
  refine kw_iadd 1245 F (v := i + 2) dL_law_1244 rfl rfl ?_
  refine kw_sld 1246 F S hL (z := i + 2) (by omega) dL_law_1245 rfl ?_
  have hs2 := sv_rng sq (i + 2)
  refine kw_aload_n 1247 F 0 dL_law_1246 rfl rfl rfl ?_
  refine kw_iload_n 1248 F 3 dL_law_1247 rfl rfl rfl ?_
  refine kw_iconst 1249 F dL_law_1248 rfl ?_
  refine kw_iadd 1250 F (v := i + 3) dL_law_1249 rfl rfl ?_
  refine kw_sld 1251 F S hL (z := i + 3) (by omega) dL_law_1250 rfl ?_
  have hs3 := sv_rng sq (i + 3)
  refine kw_VCi 1254 F (As := [vI (sv sq (i + 1)), vI (sv sq (i + 2)), vI (sv sq (i + 3))]) (st := []) vd_L_127 (e_next3 G l M 0 (sv sq (i + 1)) (sv sq (i + 2)) (sv sq (i + 3)) hI kd_0 (by omega) hX q hS hU hF hK) kd_0 rfl rfl rfl ⟨by decide, by decide⟩ rfl rfl (Nat.le_of_ble_eq_true rfl) dL_law_1251 rfl hcr ?_
  intro r4 U5 q6
  obtain ⟨hiU5, hfU5, q6, hxU5, huU5⟩ := q6
  refine kw_pop 1255 F dL_law_1254 rfl rfl ?_
  refine kw_aload_n 1256 F 2 dL_law_1255 rfl rfl rfl ?_
  refine kw_aload_n 1257 F 0 dL_law_1256 rfl rfl rfl ?_
  refine kw_iload_n 1258 F 3 dL_law_1257 rfl rfl rfl ?_
  refine kw_iconst 1259 F dL_law_1258 rfl ?_
  refine kw_iadd 1260 F (v := i + 1) dL_law_1259 rfl rfl ?_
  refine kw_sld 1261 F S hL (z := i + 1) (by omega) dL_law_1260 rfl ?_
  refine kw_aload_n 1262 F 0 dL_law_1261 rfl rfl rfl ?_
  refine kw_iload_n 1263 F 3 dL_law_1262 rfl rfl rfl ?_
  refine kw_iconst 1264 F dL_law_1263 rfl ?_
  refine kw_iadd 1265 F (v := i + 2) dL_law_1264 rfl rfl ?_
  refine kw_sld 1266 F S hL (z := i + 2) (by omega) dL_law_1265 rfl ?_
  refine kw_aload_n 1267 F 0 dL_law_1266 rfl rfl rfl ?_
  refine kw_iload_n 1268 F 3 dL_law_1267 rfl rfl rfl ?_
  refine kw_iconst 1269 F dL_law_1268 rfl ?_
  refine kw_iadd 1270 F (v := i + 3) dL_law_1269 rfl rfl ?_
  refine kw_sld 1271 F S hL (z := i + 3) (by omega) dL_law_1270 rfl ?_
  refine kw_VMi 1274 F (As := [vI (sv sq (i + 1)), vI (sv sq (i + 2)), vI (sv sq (i + 3))]) (st := []) vd_L_130 (e_next3m G l N (sv sq (i + 1)) (sv sq (i + 2)) (sv sq (i + 3)) hJ (by omega) q hR hT hC) kd_163 rfl rfl rfl ⟨by decide, by decide⟩ rfl rfl (Nat.le_of_ble_eq_true rfl) dL_law_1271 rfl hcr ?_
  intro r10 U11 q12
  obtain ⟨hiU11, hfU11, q12, huU11⟩ := q12
  have hyU11 : YY U11 := YY.fr hY hfU11 rfl
  obtain ⟨tM1, tM2⟩ := huU5
  have he := zNXT.u tM1 huU11
  have ht : Tie U5 U11 := ⟨(Fr.e hfU5 kd_0 7 rfl).trans (hm.1.trans (Fr.e hfU11 kd_163 50 rfl).symm), (Fr.e hfU5 kd_x5 1 rfl).trans (hm.2.1.trans (Fr.e hfU11 kd_163 10 rfl).symm), (Fr.fn hfU5 kd_x4 rfl).trans (hm.2.2.1.trans (Fr.fn hfU11 kd_y6 rfl).symm), (Fr.fn hfU5 kd_x3 rfl).trans (hm.2.2.2.1.trans (Fr.fn hfU11 kd_y5 rfl).symm), (Fr.fn hfU5 kd_x6 rfl).trans (hm.2.2.2.2.1.trans (Fr.fn hfU11 kd_169 rfl).symm), (Fr.e hfU5 kd_x5 2 rfl).trans (hm.2.2.2.2.2.1.trans (Fr.e hfU11 kd_163 16 rfl).symm), (Fr.e hfU5 kd_x5 3 rfl).trans (hm.2.2.2.2.2.2.1.trans (Fr.e hfU11 kd_163 17 rfl).symm), FZ.fr hm.2.2.2.2.2.2.2.1 hfU5 rfl, (zTS.m (zTS.c hm.2.2.2.2.2.2.2.2.1 hI hfU5 rfl) (fun i _ _ _ => congrFun (Fr.fn hfU11 kd_164 rfl) i)), (Fr.fn hfU5 kd_x2 rfl).trans (hm.2.2.2.2.2.2.2.2.2.1.trans (Fr.fn hfU11 kd_y7 rfl).symm), (zTQ.m (zTQ.c hm.2.2.2.2.2.2.2.2.2.2.1 (Fr.e hfU5 kd_0 7 rfl)) hJ (fun i _ _ _ => congrFun (Fr.fn hfU11 kd_164 rfl) i)), (zTW.m (zTW.c hm.2.2.2.2.2.2.2.2.2.2.2.1 hI hm.2.2.2.2.2.2.2.1 hfU5 rfl) hiU5 (FZ.fr hm.2.2.2.2.2.2.2.1 hfU5 rfl) (fun i _ => congrFun (Fr.fn hfU11 kd_164 rfl) i)), (zTL.q hm.2.2.2.2.2.2.2.2.2.2.2.2 hfU5 rfl tM2 (by rw [Fr.fn hfU11 kd_164 rfl]; exact hR) (by rw [Fr.fn hfU11 kd_164 rfl]; exact hT))⟩
  refine kw_pop 1275 F dL_law_1274 rfl rfl ?_
  refine kw_goto 2050 F dL_law_1275 (by decide) ?_
  exact K U5 U11 hiU5 hxU5 hiU11 hyU11 ht
set_option maxHeartbeats 4000000 in
set_option maxRecDepth 100000 in
theorem lc_nextBack {G : KG} {X : KX} {l : Launch} {b L : Nat} {sq : Nat → Int32} {ce sl : Nat} (F : kF false G X l code RL 4 (some .boolean) room_1) (S : LSq X b L sq) (hL : L ≤ 3072) (hcr : ce ≤ 600000 ∧ sl ≤ 7302250) {M N : Mem} (hI : Inv false M) (hX : XX M) (hJ : Inv true N) (hY : YY N) (hm : Tie M N) {i : Int} (hi : 0 ≤ i ∧ i + 6 ≤ L) (K : ∀ M' N' : Mem, Inv false M' → XX M' → Inv true N' → YY N' → Tie M' N' → LJ G X ce sl M' N' 2050 [some (.ref b), some (vR G 0), some (vR G 163), some (vI i)] []) : LJ G X ce sl M N 1278 [some (.ref b), some (vR G 0), some (vR G 163), some (vI i)] [] := by
  obtain ⟨q, hV, hS, hU, hR, hT⟩ := hm.2.2.2.2.2.2.2.2.1.1
  have hF : zTF M 0 := hm.2.2.2.2.2.2.2.2.2.2.2.2.1
  have hK : zTC M 0 q := hm.2.2.2.2.2.2.2.2.2.2.2.2.2 q hV hR hT
  have hC : zQC q := zQC.of hm.2.2.2.2.2.2.2.2.2.2.1.1 hV hR hT
  refine kw_aload_n 1279 F 1 dL_law_1278 rfl rfl rfl ?_
  refine kw_aload_n 1280 F 0 dL_law_1279 rfl rfl rfl ?_
  refine kw_iload_n 1281 F 3 dL_law_1280 rfl rfl rfl ?_
  refine kw_iconst 1282 F dL_law_1281 rfl ?_
  refine kw_iadd 1283 F (v := i + 1) dL_law_1282 rfl rfl ?_
  refine kw_sld 1284 F S hL (z := i + 1) (by omega) dL_law_1283 rfl ?_
  have hs1 := sv_rng sq (i + 1)
  refine kw_aload_n 1285 F 0 dL_law_1284 rfl rfl rfl ?_
  refine kw_iload_n 1286 F 3 dL_law_1285 rfl rfl rfl ?_
  refine kw_iconst 1287 F dL_law_1286 rfl ?_
  refine kw_iadd 1288 F (v := i + 2) dL_law_1287 rfl rfl ?_
  refine kw_sld 1289 F S hL (z := i + 2) (by omega) dL_law_1288 rfl ?_
  have hs2 := sv_rng sq (i + 2)
  refine kw_aload_n 1290 F 0 dL_law_1289 rfl rfl rfl ?_
  refine kw_iload_n 1291 F 3 dL_law_1290 rfl rfl rfl ?_
  refine kw_iconst 1292 F dL_law_1291 rfl ?_
  refine kw_iadd 1293 F (v := i + 3) dL_law_1292 rfl rfl ?_
  refine kw_sld 1294 F S hL (z := i + 3) (by omega) dL_law_1293 rfl ?_
  have hs3 := sv_rng sq (i + 3)
  refine kw_aload_n 1295 F 0 dL_law_1294 rfl rfl rfl ?_
  refine kw_iload_n 1296 F 3 dL_law_1295 rfl rfl rfl ?_
  refine kw_iconst 1297 F dL_law_1296 rfl ?_
  refine kw_iadd 1298 F (v := i + 4) dL_law_1297 rfl rfl ?_
  refine kw_sld 1299 F S hL (z := i + 4) (by omega) dL_law_1298 rfl ?_
  have hs4 := sv_rng sq (i + 4)
  refine kw_aload_n 1300 F 0 dL_law_1299 rfl rfl rfl ?_
  refine kw_iload_n 1301 F 3 dL_law_1300 rfl rfl rfl ?_
  refine kw_iconst 1302 F dL_law_1301 rfl ?_
  refine kw_iadd 1303 F (v := i + 5) dL_law_1302 rfl rfl ?_
  refine kw_sld 1304 F S hL (z := i + 5) (by omega) dL_law_1303 rfl ?_
  have hs5 := sv_rng sq (i + 5)
  refine kw_VCi 1307 F (As := [vI (sv sq (i + 1)), vI (sv sq (i + 2)), vI (sv sq (i + 3)), vI (sv sq (i + 4)), vI (sv sq (i + 5))]) (st := []) vd_L_131 (e_nextBack3 G l M 0 (sv sq (i + 1)) (sv sq (i + 2)) (sv sq (i + 3)) (sv sq (i + 4)) (sv sq (i + 5)) hI kd_0 (by omega) hX q hS hU hF hK) kd_0 rfl rfl rfl ⟨by decide, by decide⟩ rfl rfl (Nat.le_of_ble_eq_true rfl) dL_law_1304 rfl hcr ?_
  intro r6 U7 q8
  obtain ⟨hiU7, hfU7, q8, hxU7, huU7⟩ := q8
  refine kw_pop 1308 F dL_law_1307 rfl rfl ?_
  refine kw_aload_n 1309 F 2 dL_law_1308 rfl rfl rfl ?_
  refine kw_aload_n 1310 F 0 dL_law_1309 rfl rfl rfl ?_
  refine kw_iload_n 1311 F 3 dL_law_1310 rfl rfl rfl ?_
  refine kw_iconst 1312 F dL_law_1311 rfl ?_
  refine kw_iadd 1313 F (v := i + 1) dL_law_1312 rfl rfl ?_
  refine kw_sld 1314 F S hL (z := i + 1) (by omega) dL_law_1313 rfl ?_
  refine kw_aload_n 1315 F 0 dL_law_1314 rfl rfl rfl ?_
  refine kw_iload_n 1316 F 3 dL_law_1315 rfl rfl rfl ?_
  refine kw_iconst 1317 F dL_law_1316 rfl ?_
  refine kw_iadd 1318 F (v := i + 2) dL_law_1317 rfl rfl ?_
  refine kw_sld 1319 F S hL (z := i + 2) (by omega) dL_law_1318 rfl ?_
  refine kw_aload_n 1320 F 0 dL_law_1319 rfl rfl rfl ?_
  refine kw_iload_n 1321 F 3 dL_law_1320 rfl rfl rfl ?_
  refine kw_iconst 1322 F dL_law_1321 rfl ?_
  refine kw_iadd 1323 F (v := i + 3) dL_law_1322 rfl rfl ?_
  refine kw_sld 1324 F S hL (z := i + 3) (by omega) dL_law_1323 rfl ?_
  refine kw_aload_n 1325 F 0 dL_law_1324 rfl rfl rfl ?_
  refine kw_iload_n 1326 F 3 dL_law_1325 rfl rfl rfl ?_
  refine kw_iconst 1327 F dL_law_1326 rfl ?_
  refine kw_iadd 1328 F (v := i + 4) dL_law_1327 rfl rfl ?_
  refine kw_sld 1329 F S hL (z := i + 4) (by omega) dL_law_1328 rfl ?_
  refine kw_aload_n 1330 F 0 dL_law_1329 rfl rfl rfl ?_
  refine kw_iload_n 1331 F 3 dL_law_1330 rfl rfl rfl ?_
  refine kw_iconst 1332 F dL_law_1331 rfl ?_
  refine kw_iadd 1333 F (v := i + 5) dL_law_1332 rfl rfl ?_
  refine kw_sld 1334 F S hL (z := i + 5) (by omega) dL_law_1333 rfl ?_
  refine kw_VMi 1337 F (As := [vI (sv sq (i + 1)), vI (sv sq (i + 2)), vI (sv sq (i + 3)), vI (sv sq (i + 4)), vI (sv sq (i + 5))]) (st := []) vd_L_134 (e_nextBack3m G l N (sv sq (i + 1)) (sv sq (i + 2)) (sv sq (i + 3)) (sv sq (i + 4)) (sv sq (i + 5)) hJ (by omega) q hR hT hC) kd_163 rfl rfl rfl ⟨by decide, by decide⟩ rfl rfl (Nat.le_of_ble_eq_true rfl) dL_law_1334 rfl hcr ?_
  intro r14 U15 q16
  obtain ⟨hiU15, hfU15, q16, huU15⟩ := q16
  have hyU15 : YY U15 := YY.fr hY hfU15 rfl
  obtain ⟨tM1, tM2⟩ := huU7
  have he := zNBK.u tM1 huU15
  have ht : Tie U7 U15 := ⟨(Fr.e hfU7 kd_0 7 rfl).trans (hm.1.trans (Fr.e hfU15 kd_163 50 rfl).symm), (Fr.e hfU7 kd_x5 1 rfl).trans (hm.2.1.trans (Fr.e hfU15 kd_163 10 rfl).symm), (Fr.fn hfU7 kd_x4 rfl).trans (hm.2.2.1.trans (Fr.fn hfU15 kd_y6 rfl).symm), (Fr.fn hfU7 kd_x3 rfl).trans (hm.2.2.2.1.trans (Fr.fn hfU15 kd_y5 rfl).symm), (Fr.fn hfU7 kd_x6 rfl).trans (hm.2.2.2.2.1.trans (Fr.fn hfU15 kd_169 rfl).symm), (Fr.e hfU7 kd_x5 2 rfl).trans (hm.2.2.2.2.2.1.trans (Fr.e hfU15 kd_163 16 rfl).symm), (Fr.e hfU7 kd_x5 3 rfl).trans (hm.2.2.2.2.2.2.1.trans (Fr.e hfU15 kd_163 17 rfl).symm), FZ.fr hm.2.2.2.2.2.2.2.1 hfU7 rfl, (zTS.m (zTS.c hm.2.2.2.2.2.2.2.2.1 hI hfU7 rfl) (fun i _ _ _ => congrFun (Fr.fn hfU15 kd_164 rfl) i)), (Fr.fn hfU7 kd_x2 rfl).trans (hm.2.2.2.2.2.2.2.2.2.1.trans (Fr.fn hfU15 kd_y7 rfl).symm), (zTQ.m (zTQ.c hm.2.2.2.2.2.2.2.2.2.2.1 (Fr.e hfU7 kd_0 7 rfl)) hJ (fun i _ _ _ => congrFun (Fr.fn hfU15 kd_164 rfl) i)), (zTW.m (zTW.c hm.2.2.2.2.2.2.2.2.2.2.2.1 hI hm.2.2.2.2.2.2.2.1 hfU7 rfl) hiU7 (FZ.fr hm.2.2.2.2.2.2.2.1 hfU7 rfl) (fun i _ => congrFun (Fr.fn hfU15 kd_164 rfl) i)), (zTL.q hm.2.2.2.2.2.2.2.2.2.2.2.2 hfU7 rfl tM2 (by rw [Fr.fn hfU15 kd_164 rfl]; exact hR) (by rw [Fr.fn hfU15 kd_164 rfl]; exact hT))⟩
  refine kw_pop 1338 F dL_law_1337 rfl rfl ?_
  refine kw_goto 2050 F dL_law_1338 (by decide) ?_
  exact K U7 U15 hiU7 hxU7 hiU15 hyU15 ht
set_option maxHeartbeats 4000000 in
set_option maxRecDepth 100000 in
theorem lc_well {G : KG} {X : KX} {l : Launch} {b L : Nat} {sq : Nat → Int32} {ce sl : Nat} (F : kF false G X l code RL 4 (some .boolean) room_1) (S : LSq X b L sq) (hL : L ≤ 3072) (hcr : ce ≤ 600000 ∧ sl ≤ 7302250) {M N : Mem} (hI : Inv false M) (hX : XX M) (hJ : Inv true N) (hY : YY N) (hm : Tie M N) {i : Int} (hi : 0 ≤ i ∧ i + 6 ≤ L) (K : ∀ M' N' : Mem, Inv false M' → XX M' → Inv true N' → YY N' → Tie M' N' → LJ G X ce sl M' N' 2050 [some (.ref b), some (vR G 0), some (vR G 163), some (vI i)] []) : LJ G X ce sl M N 1341 [some (.ref b), some (vR G 0), some (vR G 163), some (vI i)] [] := by
  refine kw_aload_n 1342 F 1 dL_law_1341 rfl rfl rfl ?_
  refine kw_aload_n 1343 F 0 dL_law_1342 rfl rfl rfl ?_
  refine kw_iload_n 1344 F 3 dL_law_1343 rfl rfl rfl ?_
  refine kw_iconst 1345 F dL_law_1344 rfl ?_
  refine kw_iadd 1346 F (v := i + 1) dL_law_1345 rfl rfl ?_
  refine kw_sld 1347 F S hL (z := i + 1) (by omega) dL_law_1346 rfl ?_
  have hs1 := sv_rng sq (i + 1)
  refine kw_aload_n 1348 F 0 dL_law_1347 rfl rfl rfl ?_
  refine kw_iload_n 1349 F 3 dL_law_1348 rfl rfl rfl ?_
  refine kw_iconst 1350 F dL_law_1349 rfl ?_
  refine kw_iadd 1351 F (v := i + 2) dL_law_1350 rfl rfl ?_
  refine kw_sld 1352 F S hL (z := i + 2) (by omega) dL_law_1351 rfl ?_
  have hs2 := sv_rng sq (i + 2)
  refine kw_aload_n 1353 F 0 dL_law_1352 rfl rfl rfl ?_
  refine kw_iload_n 1354 F 3 dL_law_1353 rfl rfl rfl ?_
  refine kw_iconst 1355 F dL_law_1354 rfl ?_
  refine kw_iadd 1356 F (v := i + 3) dL_law_1355 rfl rfl ?_
  refine kw_sld 1357 F S hL (z := i + 3) (by omega) dL_law_1356 rfl ?_
  have hs3 := sv_rng sq (i + 3)
  refine kw_VCi 1360 F (As := [vI (sv sq (i + 1)), vI (sv sq (i + 2)), vI (sv sq (i + 3))]) (st := []) vd_L_135 (c_X11_well G l M 0 (sv sq (i + 1)) (sv sq (i + 2)) (sv sq (i + 3)) hI kd_0 (by omega) hX) kd_0 rfl rfl rfl ⟨by decide, by decide⟩ rfl rfl (Nat.le_of_ble_eq_true rfl) dL_law_1357 rfl hcr ?_
  intro r4 U5 q6
  obtain ⟨hiU5, hfU5, q6, hxU5⟩ := q6
  refine kw_pop 1361 F dL_law_1360 rfl rfl ?_
  refine kw_aload_n 1362 F 2 dL_law_1361 rfl rfl rfl ?_
  refine kw_aload_n 1363 F 0 dL_law_1362 rfl rfl rfl ?_
  refine kw_iload_n 1364 F 3 dL_law_1363 rfl rfl rfl ?_
  refine kw_iconst 1365 F dL_law_1364 rfl ?_
  refine kw_iadd 1366 F (v := i + 1) dL_law_1365 rfl rfl ?_
  refine kw_sld 1367 F S hL (z := i + 1) (by omega) dL_law_1366 rfl ?_
  refine kw_aload_n 1368 F 0 dL_law_1367 rfl rfl rfl ?_
  refine kw_iload_n 1369 F 3 dL_law_1368 rfl rfl rfl ?_
  refine kw_iconst 1370 F dL_law_1369 rfl ?_
  refine kw_iadd 1371 F (v := i + 2) dL_law_1370 rfl rfl ?_
  refine kw_sld 1372 F S hL (z := i + 2) (by omega) dL_law_1371 rfl ?_
  refine kw_aload_n 1373 F 0 dL_law_1372 rfl rfl rfl ?_
  refine kw_iload_n 1374 F 3 dL_law_1373 rfl rfl rfl ?_
  refine kw_iconst 1375 F dL_law_1374 rfl ?_
  refine kw_iadd 1376 F (v := i + 3) dL_law_1375 rfl rfl ?_
  refine kw_sld 1377 F S hL (z := i + 3) (by omega) dL_law_1376 rfl ?_
  refine kw_VMi 1380 F (As := [vI (sv sq (i + 1)), vI (sv sq (i + 2)), vI (sv sq (i + 3))]) (st := []) vd_L_138 (c_X12_well G l N (sv sq (i + 1)) (sv sq (i + 2)) (sv sq (i + 3)) hJ (by omega)) kd_163 rfl rfl rfl ⟨by decide, by decide⟩ rfl rfl (Nat.le_of_ble_eq_true rfl) dL_law_1377 rfl hcr ?_
  intro r10 U11 q12
  obtain ⟨hiU11, hfU11, q12⟩ := q12
  have hyU11 : YY U11 := YY.fr hY hfU11 rfl
  have ht : Tie U5 U11 := (Tie.m (Tie.c hm hI hfU5 rfl) hJ hfU11 rfl hiU5 (fun i => congrFun (Fr.fn hfU11 kd_164 rfl) i))
  refine kw_pop 1381 F dL_law_1380 rfl rfl ?_
  refine kw_goto 2050 F dL_law_1381 (by decide) ?_
  exact K U5 U11 hiU5 hxU5 hiU11 hyU11 ht
set_option maxHeartbeats 4000000 in
set_option maxRecDepth 100000 in
theorem lc_reaches {G : KG} {X : KX} {l : Launch} {b L : Nat} {sq : Nat → Int32} {ce sl : Nat} (F : kF false G X l code RL 4 (some .boolean) room_1) (S : LSq X b L sq) (hL : L ≤ 3072) (hcr : ce ≤ 600000 ∧ sl ≤ 7302250) {M N : Mem} (hI : Inv false M) (hX : XX M) (hJ : Inv true N) (hY : YY N) (hm : Tie M N) {i : Int} (hi : 0 ≤ i ∧ i + 6 ≤ L) (K : ∀ M' N' : Mem, Inv false M' → XX M' → Inv true N' → YY N' → Tie M' N' → LJ G X ce sl M' N' 2050 [some (.ref b), some (vR G 0), some (vR G 163), some (vI i)] []) : LJ G X ce sl M N 1384 [some (.ref b), some (vR G 0), some (vR G 163), some (vI i)] [] := by
  refine kw_aload_n 1385 F 1 dL_law_1384 rfl rfl rfl ?_
  refine kw_aload_n 1386 F 0 dL_law_1385 rfl rfl rfl ?_
  refine kw_iload_n 1387 F 3 dL_law_1386 rfl rfl rfl ?_
  refine kw_iconst 1388 F dL_law_1387 rfl ?_
  refine kw_iadd 1389 F (v := i + 1) dL_law_1388 rfl rfl ?_
  refine kw_sld 1390 F S hL (z := i + 1) (by omega) dL_law_1389 rfl ?_
  have hs1 := sv_rng sq (i + 1)
  refine kw_VCi 1393 F (As := [vI (sv sq (i + 1))]) (st := []) vd_L_139 (c_X11_reaches G l M 0 (sv sq (i + 1)) hI kd_0 (by omega)) kd_0 rfl rfl rfl ⟨by decide, by decide⟩ rfl rfl (Nat.le_of_ble_eq_true rfl) dL_law_1390 rfl hcr ?_
  intro r2 U3 q4
  obtain ⟨hiU3, hfU3, q4⟩ := q4
  have hxU3 : XX U3 := XX.fr hX hI hfU3 rfl
  refine kw_pop 1394 F dL_law_1393 rfl rfl ?_
  refine kw_aload_n 1395 F 2 dL_law_1394 rfl rfl rfl ?_
  refine kw_aload_n 1396 F 0 dL_law_1395 rfl rfl rfl ?_
  refine kw_iload_n 1397 F 3 dL_law_1396 rfl rfl rfl ?_
  refine kw_iconst 1398 F dL_law_1397 rfl ?_
  refine kw_iadd 1399 F (v := i + 1) dL_law_1398 rfl rfl ?_
  refine kw_sld 1400 F S hL (z := i + 1) (by omega) dL_law_1399 rfl ?_
  refine kw_VMi 1403 F (As := [vI (sv sq (i + 1))]) (st := []) vd_L_142 (c_X12_reaches G l N (sv sq (i + 1)) hJ (by omega)) kd_163 rfl rfl rfl ⟨by decide, by decide⟩ rfl rfl (Nat.le_of_ble_eq_true rfl) dL_law_1400 rfl hcr ?_
  intro r6 U7 q8
  obtain ⟨hiU7, hfU7, q8⟩ := q8
  have hyU7 : YY U7 := YY.fr hY hfU7 rfl
  have ht : Tie U3 U7 := (Tie.m (Tie.c hm hI hfU3 rfl) hJ hfU7 rfl hiU3 (fun i => congrFun (Fr.fn hfU7 kd_164 rfl) i))
  refine kw_pop 1404 F dL_law_1403 rfl rfl ?_
  refine kw_goto 2050 F dL_law_1404 (by decide) ?_
  exact K U3 U7 hiU3 hxU3 hiU7 hyU7 ht
set_option maxHeartbeats 4000000 in
set_option maxRecDepth 100000 in
theorem lc_shortest {G : KG} {X : KX} {l : Launch} {b L : Nat} {sq : Nat → Int32} {ce sl : Nat} (F : kF false G X l code RL 4 (some .boolean) room_1) (S : LSq X b L sq) (hL : L ≤ 3072) (hcr : ce ≤ 600000 ∧ sl ≤ 7302250) {M N : Mem} (hI : Inv false M) (hX : XX M) (hJ : Inv true N) (hY : YY N) (hm : Tie M N) {i : Int} (hi : 0 ≤ i ∧ i + 6 ≤ L) (K : ∀ M' N' : Mem, Inv false M' → XX M' → Inv true N' → YY N' → Tie M' N' → LJ G X ce sl M' N' 2050 [some (.ref b), some (vR G 0), some (vR G 163), some (vI i)] []) : LJ G X ce sl M N 1407 [some (.ref b), some (vR G 0), some (vR G 163), some (vI i)] [] := by
  refine kw_aload_n 1408 F 1 dL_law_1407 rfl rfl rfl ?_
  refine kw_aload_n 1409 F 0 dL_law_1408 rfl rfl rfl ?_
  refine kw_iload_n 1410 F 3 dL_law_1409 rfl rfl rfl ?_
  refine kw_iconst 1411 F dL_law_1410 rfl ?_
  refine kw_iadd 1412 F (v := i + 1) dL_law_1411 rfl rfl ?_
  refine kw_sld 1413 F S hL (z := i + 1) (by omega) dL_law_1412 rfl ?_
  have hs1 := sv_rng sq (i + 1)
  refine kw_VCi 1416 F (As := [vI (sv sq (i + 1))]) (st := []) vd_L_143 (c_X11_shortest G l M 0 (sv sq (i + 1)) hI kd_0 (by omega) hX) kd_0 rfl rfl rfl ⟨by decide, by decide⟩ rfl rfl (Nat.le_of_ble_eq_true rfl) dL_law_1413 rfl hcr ?_
  intro r2 U3 q4
  obtain ⟨hiU3, hfU3, q4, hxU3⟩ := q4
  refine kw_pop 1417 F dL_law_1416 rfl rfl ?_
  refine kw_aload_n 1418 F 2 dL_law_1417 rfl rfl rfl ?_
  refine kw_aload_n 1419 F 0 dL_law_1418 rfl rfl rfl ?_
  refine kw_iload_n 1420 F 3 dL_law_1419 rfl rfl rfl ?_
  refine kw_iconst 1421 F dL_law_1420 rfl ?_
  refine kw_iadd 1422 F (v := i + 1) dL_law_1421 rfl rfl ?_
  refine kw_sld 1423 F S hL (z := i + 1) (by omega) dL_law_1422 rfl ?_
  refine kw_VMi 1426 F (As := [vI (sv sq (i + 1))]) (st := []) vd_L_146 (c_X12_shortest G l N (sv sq (i + 1)) hJ (by omega)) kd_163 rfl rfl rfl ⟨by decide, by decide⟩ rfl rfl (Nat.le_of_ble_eq_true rfl) dL_law_1423 rfl hcr ?_
  intro r6 U7 q8
  obtain ⟨hiU7, hfU7, q8⟩ := q8
  have hyU7 : YY U7 := YY.fr hY hfU7 rfl
  have ht : Tie U3 U7 := (Tie.m (Tie.c hm hI hfU3 rfl) hJ hfU7 rfl hiU3 (fun i => congrFun (Fr.fn hfU7 kd_164 rfl) i))
  refine kw_pop 1427 F dL_law_1426 rfl rfl ?_
  refine kw_goto 2050 F dL_law_1427 (by decide) ?_
  exact K U3 U7 hiU3 hxU3 hiU7 hyU7 ht
