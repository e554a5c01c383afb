abbrev cL_law : ByteArray := code
set_option maxRecDepth 100000 in
theorem dGR_45_lawrows_12 : (decode cL_law 0 = .ok (.new 7, 3)) ∧ (decode cL_law 3 = .ok (.dup, 1)) ∧ (decode cL_law 4 = .ok (.invokespecial 9, 3)) ∧ (decode cL_law 7 = .ok (.astore_n 1, 1)) ∧ (decode cL_law 8 = .ok (.new 10, 3)) ∧ (decode cL_law 11 = .ok (.dup, 1)) ∧ (decode cL_law 12 = .ok (.invokespecial 12, 3)) ∧ (decode cL_law 15 = .ok (.astore_n 2, 1)) ∧ (decode cL_law 16 = .ok (.iconst 0, 1)) ∧ (decode cL_law 17 = .ok (.istore_n 3, 1)) ∧ (decode cL_law 18 = .ok (.iload_n 3, 1)) ∧ (decode cL_law 19 = .ok (.aload_n 0, 1)) := by decide +kernel
theorem dL_law_0 : decode cL_law 0 = .ok (.new 7, 3) := dGR_45_lawrows_12.1
theorem dL_law_3 : decode cL_law 3 = .ok (.dup, 1) := dGR_45_lawrows_12.2.1
theorem dL_law_4 : decode cL_law 4 = .ok (.invokespecial 9, 3) := dGR_45_lawrows_12.2.2.1
theorem dL_law_7 : decode cL_law 7 = .ok (.astore_n 1, 1) := dGR_45_lawrows_12.2.2.2.1
theorem dL_law_8 : decode cL_law 8 = .ok (.new 10, 3) := dGR_45_lawrows_12.2.2.2.2.1
theorem dL_law_11 : decode cL_law 11 = .ok (.dup, 1) := dGR_45_lawrows_12.2.2.2.2.2.1
theorem dL_law_12 : decode cL_law 12 = .ok (.invokespecial 12, 3) := dGR_45_lawrows_12.2.2.2.2.2.2.1
theorem dL_law_15 : decode cL_law 15 = .ok (.astore_n 2, 1) := dGR_45_lawrows_12.2.2.2.2.2.2.2.1
theorem dL_law_16 : decode cL_law 16 = .ok (.iconst 0, 1) := dGR_45_lawrows_12.2.2.2.2.2.2.2.2.1
theorem dL_law_17 : decode cL_law 17 = .ok (.istore_n 3, 1) := dGR_45_lawrows_12.2.2.2.2.2.2.2.2.2.1
theorem dL_law_18 : decode cL_law 18 = .ok (.iload_n 3, 1) := dGR_45_lawrows_12.2.2.2.2.2.2.2.2.2.2.1
theorem dL_law_19 : decode cL_law 19 = .ok (.aload_n 0, 1) := dGR_45_lawrows_12.2.2.2.2.2.2.2.2.2.2.2
set_option maxRecDepth 100000 in
theorem dGR_45_lawrows_13 : (decode cL_law 20 = .ok (.arraylength, 1)) ∧ (decode cL_law 21 = .ok (.bipush 6, 2)) ∧ (decode cL_law 23 = .ok (.isub, 1)) ∧ (decode cL_law 24 = .ok (.if_icmp .gt 2033, 3)) ∧ (decode cL_law 27 = .ok (.aload_n 0, 1)) ∧ (decode cL_law 28 = .ok (.iload_n 3, 1)) ∧ (decode cL_law 29 = .ok (.iaload, 1)) ∧ (decode cL_law 30 = .ok (.bipush 63, 2)) ∧ (decode cL_law 32 = .ok (.iand, 1)) ∧ (decode cL_law 33 = .ok (.tableswitch 2018 0 49 #[215, 228, 241, 254, 297, 370, 404, 467, 530, 553, 576, 599, 632, 675, 738, 771, 830, 889, 922, 965, 1008, 1051, 1094, 1137, 1160, 1203, 1246, 1309, 1352, 1375, 1398, 1431, 1464, 1507, 1540, 1583, 1606, 1639, 1672, 1705, 1738, 1771, 1814, 1857, 1910, 1933, 1956, 1979, 1992, 2005], 215)) ∧ (decode cL_law 2057 = .ok (.iconst 1, 1)) := by decide +kernel
theorem dL_law_20 : decode cL_law 20 = .ok (.arraylength, 1) := dGR_45_lawrows_13.1
theorem dL_law_21 : decode cL_law 21 = .ok (.bipush 6, 2) := dGR_45_lawrows_13.2.1
theorem dL_law_23 : decode cL_law 23 = .ok (.isub, 1) := dGR_45_lawrows_13.2.2.1
theorem dL_law_24 : decode cL_law 24 = .ok (.if_icmp .gt 2033, 3) := dGR_45_lawrows_13.2.2.2.1
theorem dL_law_27 : decode cL_law 27 = .ok (.aload_n 0, 1) := dGR_45_lawrows_13.2.2.2.2.1
theorem dL_law_28 : decode cL_law 28 = .ok (.iload_n 3, 1) := dGR_45_lawrows_13.2.2.2.2.2.1
theorem dL_law_29 : decode cL_law 29 = .ok (.iaload, 1) := dGR_45_lawrows_13.2.2.2.2.2.2.1
theorem dL_law_30 : decode cL_law 30 = .ok (.bipush 63, 2) := dGR_45_lawrows_13.2.2.2.2.2.2.2.1
theorem dL_law_32 : decode cL_law 32 = .ok (.iand, 1) := dGR_45_lawrows_13.2.2.2.2.2.2.2.2.1
theorem dL_law_33 : decode cL_law 33 = .ok (.tableswitch 2018 0 49 #[215, 228, 241, 254, 297, 370, 404, 467, 530, 553, 576, 599, 632, 675, 738, 771, 830, 889, 922, 965, 1008, 1051, 1094, 1137, 1160, 1203, 1246, 1309, 1352, 1375, 1398, 1431, 1464, 1507, 1540, 1583, 1606, 1639, 1672, 1705, 1738, 1771, 1814, 1857, 1910, 1933, 1956, 1979, 1992, 2005], 215) := dGR_45_lawrows_13.2.2.2.2.2.2.2.2.2.1
theorem dL_law_2057 : decode cL_law 2057 = .ok (.iconst 1, 1) := dGR_45_lawrows_13.2.2.2.2.2.2.2.2.2.2
