set_option maxRecDepth 100000 in
theorem dGR_35_c_1135 : (decode cX12_seen 0 = .ok (.iload_n 1, 1)) ∧ (decode cX12_seen 1 = .ok (.ifCond .lt 8, 3)) ∧ (decode cX12_seen 4 = .ok (.iload_n 1, 1)) ∧ (decode cX12_seen 5 = .ok (.iconst 4, 1)) ∧ (decode cX12_seen 6 = .ok (.if_icmp .le 9, 3)) ∧ (decode cX12_seen 9 = .ok (.aload_n 0, 1)) ∧ (decode cX12_seen 10 = .ok (.iconst 1, 1)) ∧ (decode cX12_seen 11 = .ok (.invokevirtual 123, 3)) ∧ (decode cX12_seen 14 = .ok (.ireturn, 1)) ∧ (decode cX12_seen 15 = .ok (.aload_n 0, 1)) ∧ (decode cX12_seen 16 = .ok (.getfield 7, 3)) ∧ (decode cX12_seen 19 = .ok (.iconst 4, 1)) := by decide +kernel
theorem dX12_seen_0 : decode cX12_seen 0 = .ok (.iload_n 1, 1) := dGR_35_c_1135.1
theorem dX12_seen_1 : decode cX12_seen 1 = .ok (.ifCond .lt 8, 3) := dGR_35_c_1135.2.1
theorem dX12_seen_4 : decode cX12_seen 4 = .ok (.iload_n 1, 1) := dGR_35_c_1135.2.2.1
theorem dX12_seen_5 : decode cX12_seen 5 = .ok (.iconst 4, 1) := dGR_35_c_1135.2.2.2.1
theorem dX12_seen_6 : decode cX12_seen 6 = .ok (.if_icmp .le 9, 3) := dGR_35_c_1135.2.2.2.2.1
theorem dX12_seen_9 : decode cX12_seen 9 = .ok (.aload_n 0, 1) := dGR_35_c_1135.2.2.2.2.2.1
theorem dX12_seen_10 : decode cX12_seen 10 = .ok (.iconst 1, 1) := dGR_35_c_1135.2.2.2.2.2.2.1
theorem dX12_seen_11 : decode cX12_seen 11 = .ok (.invokevirtual 123, 3) := dGR_35_c_1135.2.2.2.2.2.2.2.1
theorem dX12_seen_14 : decode cX12_seen 14 = .ok (.ireturn, 1) := dGR_35_c_1135.2.2.2.2.2.2.2.2.1
theorem dX12_seen_15 : decode cX12_seen 15 = .ok (.aload_n 0, 1) := dGR_35_c_1135.2.2.2.2.2.2.2.2.2.1
theorem dX12_seen_16 : decode cX12_seen 16 = .ok (.getfield 7, 3) := dGR_35_c_1135.2.2.2.2.2.2.2.2.2.2.1
theorem dX12_seen_19 : decode cX12_seen 19 = .ok (.iconst 4, 1) := dGR_35_c_1135.2.2.2.2.2.2.2.2.2.2.2
set_option maxRecDepth 100000 in
theorem dGR_35_c_1136 : (decode cX12_seen 20 = .ok (.iaload, 1)) ∧ (decode cX12_seen 21 = .ok (.iconst (-1), 1)) ∧ (decode cX12_seen 22 = .ok (.if_icmp .ne 10, 3)) ∧ (decode cX12_seen 25 = .ok (.aload_n 0, 1)) ∧ (decode cX12_seen 26 = .ok (.bipush 6, 2)) ∧ (decode cX12_seen 28 = .ok (.invokevirtual 123, 3)) ∧ (decode cX12_seen 31 = .ok (.ireturn, 1)) ∧ (decode cX12_seen 32 = .ok (.iload_n 1, 1)) ∧ (decode cX12_seen 33 = .ok (.tableswitch 77 0 3 #[31, 42, 53, 65], 31)) ∧ (decode cX12_seen 64 = .ok (.aload_n 0, 1)) ∧ (decode cX12_seen 65 = .ok (.aload_n 0, 1)) ∧ (decode cX12_seen 66 = .ok (.getfield 7, 3)) := by decide +kernel
theorem dX12_seen_20 : decode cX12_seen 20 = .ok (.iaload, 1) := dGR_35_c_1136.1
theorem dX12_seen_21 : decode cX12_seen 21 = .ok (.iconst (-1), 1) := dGR_35_c_1136.2.1
theorem dX12_seen_22 : decode cX12_seen 22 = .ok (.if_icmp .ne 10, 3) := dGR_35_c_1136.2.2.1
theorem dX12_seen_25 : decode cX12_seen 25 = .ok (.aload_n 0, 1) := dGR_35_c_1136.2.2.2.1
theorem dX12_seen_26 : decode cX12_seen 26 = .ok (.bipush 6, 2) := dGR_35_c_1136.2.2.2.2.1
theorem dX12_seen_28 : decode cX12_seen 28 = .ok (.invokevirtual 123, 3) := dGR_35_c_1136.2.2.2.2.2.1
theorem dX12_seen_31 : decode cX12_seen 31 = .ok (.ireturn, 1) := dGR_35_c_1136.2.2.2.2.2.2.1
theorem dX12_seen_32 : decode cX12_seen 32 = .ok (.iload_n 1, 1) := dGR_35_c_1136.2.2.2.2.2.2.2.1
theorem dX12_seen_33 : decode cX12_seen 33 = .ok (.tableswitch 77 0 3 #[31, 42, 53, 65], 31) := dGR_35_c_1136.2.2.2.2.2.2.2.2.1
theorem dX12_seen_64 : decode cX12_seen 64 = .ok (.aload_n 0, 1) := dGR_35_c_1136.2.2.2.2.2.2.2.2.2.1
theorem dX12_seen_65 : decode cX12_seen 65 = .ok (.aload_n 0, 1) := dGR_35_c_1136.2.2.2.2.2.2.2.2.2.2.1
theorem dX12_seen_66 : decode cX12_seen 66 = .ok (.getfield 7, 3) := dGR_35_c_1136.2.2.2.2.2.2.2.2.2.2.2
set_option maxRecDepth 100000 in
theorem dGR_35_c_1137 : (decode cX12_seen 69 = .ok (.iconst 4, 1)) ∧ (decode cX12_seen 70 = .ok (.iaload, 1)) ∧ (decode cX12_seen 71 = .ok (.invokevirtual 127, 3)) ∧ (decode cX12_seen 74 = .ok (.ireturn, 1)) ∧ (decode cX12_seen 75 = .ok (.aload_n 0, 1)) ∧ (decode cX12_seen 76 = .ok (.aload_n 0, 1)) ∧ (decode cX12_seen 77 = .ok (.getfield 7, 3)) ∧ (decode cX12_seen 80 = .ok (.iconst 5, 1)) ∧ (decode cX12_seen 81 = .ok (.iaload, 1)) ∧ (decode cX12_seen 82 = .ok (.invokevirtual 127, 3)) ∧ (decode cX12_seen 85 = .ok (.ireturn, 1)) ∧ (decode cX12_seen 86 = .ok (.aload_n 0, 1)) := by decide +kernel
theorem dX12_seen_69 : decode cX12_seen 69 = .ok (.iconst 4, 1) := dGR_35_c_1137.1
theorem dX12_seen_70 : decode cX12_seen 70 = .ok (.iaload, 1) := dGR_35_c_1137.2.1
theorem dX12_seen_71 : decode cX12_seen 71 = .ok (.invokevirtual 127, 3) := dGR_35_c_1137.2.2.1
theorem dX12_seen_74 : decode cX12_seen 74 = .ok (.ireturn, 1) := dGR_35_c_1137.2.2.2.1
theorem dX12_seen_75 : decode cX12_seen 75 = .ok (.aload_n 0, 1) := dGR_35_c_1137.2.2.2.2.1
theorem dX12_seen_76 : decode cX12_seen 76 = .ok (.aload_n 0, 1) := dGR_35_c_1137.2.2.2.2.2.1
theorem dX12_seen_77 : decode cX12_seen 77 = .ok (.getfield 7, 3) := dGR_35_c_1137.2.2.2.2.2.2.1
theorem dX12_seen_80 : decode cX12_seen 80 = .ok (.iconst 5, 1) := dGR_35_c_1137.2.2.2.2.2.2.2.1
theorem dX12_seen_81 : decode cX12_seen 81 = .ok (.iaload, 1) := dGR_35_c_1137.2.2.2.2.2.2.2.2.1
theorem dX12_seen_82 : decode cX12_seen 82 = .ok (.invokevirtual 127, 3) := dGR_35_c_1137.2.2.2.2.2.2.2.2.2.1
theorem dX12_seen_85 : decode cX12_seen 85 = .ok (.ireturn, 1) := dGR_35_c_1137.2.2.2.2.2.2.2.2.2.2.1
theorem dX12_seen_86 : decode cX12_seen 86 = .ok (.aload_n 0, 1) := dGR_35_c_1137.2.2.2.2.2.2.2.2.2.2.2
set_option maxRecDepth 100000 in
theorem dGR_35_c_1138 : (decode cX12_seen 87 = .ok (.aload_n 0, 1)) ∧ (decode cX12_seen 88 = .ok (.getfield 7, 3)) ∧ (decode cX12_seen 91 = .ok (.bipush 6, 2)) ∧ (decode cX12_seen 93 = .ok (.iaload, 1)) ∧ (decode cX12_seen 94 = .ok (.invokevirtual 127, 3)) ∧ (decode cX12_seen 97 = .ok (.ireturn, 1)) ∧ (decode cX12_seen 98 = .ok (.aload_n 0, 1)) ∧ (decode cX12_seen 99 = .ok (.aload_n 0, 1)) ∧ (decode cX12_seen 100 = .ok (.getfield 7, 3)) ∧ (decode cX12_seen 103 = .ok (.bipush 7, 2)) ∧ (decode cX12_seen 105 = .ok (.iaload, 1)) ∧ (decode cX12_seen 106 = .ok (.invokevirtual 127, 3)) := by decide +kernel
theorem dX12_seen_87 : decode cX12_seen 87 = .ok (.aload_n 0, 1) := dGR_35_c_1138.1
theorem dX12_seen_88 : decode cX12_seen 88 = .ok (.getfield 7, 3) := dGR_35_c_1138.2.1
theorem dX12_seen_91 : decode cX12_seen 91 = .ok (.bipush 6, 2) := dGR_35_c_1138.2.2.1
theorem dX12_seen_93 : decode cX12_seen 93 = .ok (.iaload, 1) := dGR_35_c_1138.2.2.2.1
theorem dX12_seen_94 : decode cX12_seen 94 = .ok (.invokevirtual 127, 3) := dGR_35_c_1138.2.2.2.2.1
theorem dX12_seen_97 : decode cX12_seen 97 = .ok (.ireturn, 1) := dGR_35_c_1138.2.2.2.2.2.1
theorem dX12_seen_98 : decode cX12_seen 98 = .ok (.aload_n 0, 1) := dGR_35_c_1138.2.2.2.2.2.2.1
theorem dX12_seen_99 : decode cX12_seen 99 = .ok (.aload_n 0, 1) := dGR_35_c_1138.2.2.2.2.2.2.2.1
theorem dX12_seen_100 : decode cX12_seen 100 = .ok (.getfield 7, 3) := dGR_35_c_1138.2.2.2.2.2.2.2.2.1
theorem dX12_seen_103 : decode cX12_seen 103 = .ok (.bipush 7, 2) := dGR_35_c_1138.2.2.2.2.2.2.2.2.2.1
theorem dX12_seen_105 : decode cX12_seen 105 = .ok (.iaload, 1) := dGR_35_c_1138.2.2.2.2.2.2.2.2.2.2.1
theorem dX12_seen_106 : decode cX12_seen 106 = .ok (.invokevirtual 127, 3) := dGR_35_c_1138.2.2.2.2.2.2.2.2.2.2.2
set_option maxRecDepth 100000 in
theorem dGR_35_c_1139 : (decode cX12_seen 109 = .ok (.ireturn, 1)) ∧ (decode cX12_seen 110 = .ok (.aload_n 0, 1)) ∧ (decode cX12_seen 111 = .ok (.aload_n 0, 1)) ∧ (decode cX12_seen 112 = .ok (.invokevirtual 522, 3)) ∧ (decode cX12_seen 115 = .ok (.invokevirtual 127, 3)) ∧ (decode cX12_seen 118 = .ok (.ireturn, 1)) := by decide +kernel
theorem dX12_seen_109 : decode cX12_seen 109 = .ok (.ireturn, 1) := dGR_35_c_1139.1
theorem dX12_seen_110 : decode cX12_seen 110 = .ok (.aload_n 0, 1) := dGR_35_c_1139.2.1
theorem dX12_seen_111 : decode cX12_seen 111 = .ok (.aload_n 0, 1) := dGR_35_c_1139.2.2.1
theorem dX12_seen_112 : decode cX12_seen 112 = .ok (.invokevirtual 522, 3) := dGR_35_c_1139.2.2.2.1
theorem dX12_seen_115 : decode cX12_seen 115 = .ok (.invokevirtual 127, 3) := dGR_35_c_1139.2.2.2.2.1
theorem dX12_seen_118 : decode cX12_seen 118 = .ok (.ireturn, 1) := dGR_35_c_1139.2.2.2.2.2
set_option maxRecDepth 100000 in
theorem dGR_35_c_1140 : (decode cX12_checker 0 = .ok (.aload_n 0, 1)) ∧ (decode cX12_checker 1 = .ok (.iload_n 1, 1)) ∧ (decode cX12_checker 2 = .ok (.sipush 900, 3)) ∧ (decode cX12_checker 5 = .ok (.invokevirtual 273, 3)) ∧ (decode cX12_checker 8 = .ok (.ifCond .ne 9, 3)) ∧ (decode cX12_checker 11 = .ok (.aload_n 0, 1)) ∧ (decode cX12_checker 12 = .ok (.iconst 1, 1)) ∧ (decode cX12_checker 13 = .ok (.invokevirtual 123, 3)) ∧ (decode cX12_checker 16 = .ok (.ireturn, 1)) ∧ (decode cX12_checker 17 = .ok (.aload_n 0, 1)) ∧ (decode cX12_checker 18 = .ok (.sipush 1088, 3)) ∧ (decode cX12_checker 21 = .ok (.invokevirtual 113, 3)) := by decide +kernel
theorem dX12_checker_0 : decode cX12_checker 0 = .ok (.aload_n 0, 1) := dGR_35_c_1140.1
theorem dX12_checker_1 : decode cX12_checker 1 = .ok (.iload_n 1, 1) := dGR_35_c_1140.2.1
theorem dX12_checker_2 : decode cX12_checker 2 = .ok (.sipush 900, 3) := dGR_35_c_1140.2.2.1
theorem dX12_checker_5 : decode cX12_checker 5 = .ok (.invokevirtual 273, 3) := dGR_35_c_1140.2.2.2.1
theorem dX12_checker_8 : decode cX12_checker 8 = .ok (.ifCond .ne 9, 3) := dGR_35_c_1140.2.2.2.2.1
theorem dX12_checker_11 : decode cX12_checker 11 = .ok (.aload_n 0, 1) := dGR_35_c_1140.2.2.2.2.2.1
theorem dX12_checker_12 : decode cX12_checker 12 = .ok (.iconst 1, 1) := dGR_35_c_1140.2.2.2.2.2.2.1
theorem dX12_checker_13 : decode cX12_checker 13 = .ok (.invokevirtual 123, 3) := dGR_35_c_1140.2.2.2.2.2.2.2.1
theorem dX12_checker_16 : decode cX12_checker 16 = .ok (.ireturn, 1) := dGR_35_c_1140.2.2.2.2.2.2.2.2.1
theorem dX12_checker_17 : decode cX12_checker 17 = .ok (.aload_n 0, 1) := dGR_35_c_1140.2.2.2.2.2.2.2.2.2.1
theorem dX12_checker_18 : decode cX12_checker 18 = .ok (.sipush 1088, 3) := dGR_35_c_1140.2.2.2.2.2.2.2.2.2.2.1
theorem dX12_checker_21 : decode cX12_checker 21 = .ok (.invokevirtual 113, 3) := dGR_35_c_1140.2.2.2.2.2.2.2.2.2.2.2
set_option maxRecDepth 100000 in
theorem dGR_35_c_1141 : (decode cX12_checker 24 = .ok (.iconst 1, 1)) ∧ (decode cX12_checker 25 = .ok (.istore_n 2, 1)) ∧ (decode cX12_checker 26 = .ok (.iload_n 2, 1)) ∧ (decode cX12_checker 27 = .ok (.ifCond .eq 18, 3)) ∧ (decode cX12_checker 30 = .ok (.aload_n 0, 1)) ∧ (decode cX12_checker 31 = .ok (.getfield 168, 3)) ∧ (decode cX12_checker 34 = .ok (.ifCond .eq 11, 3)) ∧ (decode cX12_checker 37 = .ok (.aload_n 0, 1)) ∧ (decode cX12_checker 38 = .ok (.invokevirtual 276, 3)) ∧ (decode cX12_checker 41 = .ok (.istore_n 2, 1)) ∧ (decode cX12_checker 42 = .ok (.goto (-16), 3)) ∧ (decode cX12_checker 45 = .ok (.aload_n 0, 1)) := by decide +kernel
theorem dX12_checker_24 : decode cX12_checker 24 = .ok (.iconst 1, 1) := dGR_35_c_1141.1
theorem dX12_checker_25 : decode cX12_checker 25 = .ok (.istore_n 2, 1) := dGR_35_c_1141.2.1
theorem dX12_checker_26 : decode cX12_checker 26 = .ok (.iload_n 2, 1) := dGR_35_c_1141.2.2.1
theorem dX12_checker_27 : decode cX12_checker 27 = .ok (.ifCond .eq 18, 3) := dGR_35_c_1141.2.2.2.1
theorem dX12_checker_30 : decode cX12_checker 30 = .ok (.aload_n 0, 1) := dGR_35_c_1141.2.2.2.2.1
theorem dX12_checker_31 : decode cX12_checker 31 = .ok (.getfield 168, 3) := dGR_35_c_1141.2.2.2.2.2.1
theorem dX12_checker_34 : decode cX12_checker 34 = .ok (.ifCond .eq 11, 3) := dGR_35_c_1141.2.2.2.2.2.2.1
theorem dX12_checker_37 : decode cX12_checker 37 = .ok (.aload_n 0, 1) := dGR_35_c_1141.2.2.2.2.2.2.2.1
theorem dX12_checker_38 : decode cX12_checker 38 = .ok (.invokevirtual 276, 3) := dGR_35_c_1141.2.2.2.2.2.2.2.2.1
theorem dX12_checker_41 : decode cX12_checker 41 = .ok (.istore_n 2, 1) := dGR_35_c_1141.2.2.2.2.2.2.2.2.2.1
theorem dX12_checker_42 : decode cX12_checker 42 = .ok (.goto (-16), 3) := dGR_35_c_1141.2.2.2.2.2.2.2.2.2.2.1
theorem dX12_checker_45 : decode cX12_checker 45 = .ok (.aload_n 0, 1) := dGR_35_c_1141.2.2.2.2.2.2.2.2.2.2.2
set_option maxRecDepth 100000 in
theorem dGR_35_c_1142 : (decode cX12_checker 46 = .ok (.getfield 193, 3)) ∧ (decode cX12_checker 49 = .ok (.ifCond .ne 63, 3)) ∧ (decode cX12_checker 52 = .ok (.iconst 0, 1)) ∧ (decode cX12_checker 53 = .ok (.istore_n 3, 1)) ∧ (decode cX12_checker 54 = .ok (.iload_n 3, 1)) ∧ (decode cX12_checker 55 = .ok (.sipush 272, 3)) ∧ (decode cX12_checker 58 = .ok (.if_icmp .ge 25, 3)) ∧ (decode cX12_checker 61 = .ok (.aload_n 0, 1)) ∧ (decode cX12_checker 62 = .ok (.getfield 7, 3)) ∧ (decode cX12_checker 65 = .ok (.iload_n 3, 1)) ∧ (decode cX12_checker 66 = .ok (.aload_n 0, 1)) ∧ (decode cX12_checker 67 = .ok (.getfield 7, 3)) := by decide +kernel
theorem dX12_checker_46 : decode cX12_checker 46 = .ok (.getfield 193, 3) := dGR_35_c_1142.1
theorem dX12_checker_49 : decode cX12_checker 49 = .ok (.ifCond .ne 63, 3) := dGR_35_c_1142.2.1
theorem dX12_checker_52 : decode cX12_checker 52 = .ok (.iconst 0, 1) := dGR_35_c_1142.2.2.1
theorem dX12_checker_53 : decode cX12_checker 53 = .ok (.istore_n 3, 1) := dGR_35_c_1142.2.2.2.1
theorem dX12_checker_54 : decode cX12_checker 54 = .ok (.iload_n 3, 1) := dGR_35_c_1142.2.2.2.2.1
theorem dX12_checker_55 : decode cX12_checker 55 = .ok (.sipush 272, 3) := dGR_35_c_1142.2.2.2.2.2.1
theorem dX12_checker_58 : decode cX12_checker 58 = .ok (.if_icmp .ge 25, 3) := dGR_35_c_1142.2.2.2.2.2.2.1
theorem dX12_checker_61 : decode cX12_checker 61 = .ok (.aload_n 0, 1) := dGR_35_c_1142.2.2.2.2.2.2.2.1
theorem dX12_checker_62 : decode cX12_checker 62 = .ok (.getfield 7, 3) := dGR_35_c_1142.2.2.2.2.2.2.2.2.1
theorem dX12_checker_65 : decode cX12_checker 65 = .ok (.iload_n 3, 1) := dGR_35_c_1142.2.2.2.2.2.2.2.2.2.1
theorem dX12_checker_66 : decode cX12_checker 66 = .ok (.aload_n 0, 1) := dGR_35_c_1142.2.2.2.2.2.2.2.2.2.2.1
theorem dX12_checker_67 : decode cX12_checker 67 = .ok (.getfield 7, 3) := dGR_35_c_1142.2.2.2.2.2.2.2.2.2.2.2
set_option maxRecDepth 100000 in
theorem dGR_35_c_1143 : (decode cX12_checker 70 = .ok (.sipush 1088, 3)) ∧ (decode cX12_checker 73 = .ok (.iload_n 3, 1)) ∧ (decode cX12_checker 74 = .ok (.iadd, 1)) ∧ (decode cX12_checker 75 = .ok (.iaload, 1)) ∧ (decode cX12_checker 76 = .ok (.iastore, 1)) ∧ (decode cX12_checker 77 = .ok (.iinc 3 1, 3)) ∧ (decode cX12_checker 80 = .ok (.goto (-26), 3)) ∧ (decode cX12_checker 83 = .ok (.iconst 0, 1)) ∧ (decode cX12_checker 84 = .ok (.istore_n 3, 1)) ∧ (decode cX12_checker 85 = .ok (.iload_n 3, 1)) ∧ (decode cX12_checker 86 = .ok (.bipush 6, 2)) ∧ (decode cX12_checker 88 = .ok (.if_icmp .ge 24, 3)) := by decide +kernel
theorem dX12_checker_70 : decode cX12_checker 70 = .ok (.sipush 1088, 3) := dGR_35_c_1143.1
theorem dX12_checker_73 : decode cX12_checker 73 = .ok (.iload_n 3, 1) := dGR_35_c_1143.2.1
theorem dX12_checker_74 : decode cX12_checker 74 = .ok (.iadd, 1) := dGR_35_c_1143.2.2.1
theorem dX12_checker_75 : decode cX12_checker 75 = .ok (.iaload, 1) := dGR_35_c_1143.2.2.2.1
theorem dX12_checker_76 : decode cX12_checker 76 = .ok (.iastore, 1) := dGR_35_c_1143.2.2.2.2.1
theorem dX12_checker_77 : decode cX12_checker 77 = .ok (.iinc 3 1, 3) := dGR_35_c_1143.2.2.2.2.2.1
theorem dX12_checker_80 : decode cX12_checker 80 = .ok (.goto (-26), 3) := dGR_35_c_1143.2.2.2.2.2.2.1
theorem dX12_checker_83 : decode cX12_checker 83 = .ok (.iconst 0, 1) := dGR_35_c_1143.2.2.2.2.2.2.2.1
theorem dX12_checker_84 : decode cX12_checker 84 = .ok (.istore_n 3, 1) := dGR_35_c_1143.2.2.2.2.2.2.2.2.1
theorem dX12_checker_85 : decode cX12_checker 85 = .ok (.iload_n 3, 1) := dGR_35_c_1143.2.2.2.2.2.2.2.2.2.1
theorem dX12_checker_86 : decode cX12_checker 86 = .ok (.bipush 6, 2) := dGR_35_c_1143.2.2.2.2.2.2.2.2.2.2.1
theorem dX12_checker_88 : decode cX12_checker 88 = .ok (.if_icmp .ge 24, 3) := dGR_35_c_1143.2.2.2.2.2.2.2.2.2.2.2
set_option maxRecDepth 100000 in
theorem dGR_35_c_1144 : (decode cX12_checker 91 = .ok (.aload_n 0, 1)) ∧ (decode cX12_checker 92 = .ok (.getfield 13, 3)) ∧ (decode cX12_checker 95 = .ok (.iload_n 3, 1)) ∧ (decode cX12_checker 96 = .ok (.aload_n 0, 1)) ∧ (decode cX12_checker 97 = .ok (.getfield 13, 3)) ∧ (decode cX12_checker 100 = .ok (.bipush 24, 2)) ∧ (decode cX12_checker 102 = .ok (.iload_n 3, 1)) ∧ (decode cX12_checker 103 = .ok (.iadd, 1)) ∧ (decode cX12_checker 104 = .ok (.laload, 1)) ∧ (decode cX12_checker 105 = .ok (.lastore, 1)) ∧ (decode cX12_checker 106 = .ok (.iinc 3 1, 3)) ∧ (decode cX12_checker 109 = .ok (.goto (-24), 3)) := by decide +kernel
theorem dX12_checker_91 : decode cX12_checker 91 = .ok (.aload_n 0, 1) := dGR_35_c_1144.1
theorem dX12_checker_92 : decode cX12_checker 92 = .ok (.getfield 13, 3) := dGR_35_c_1144.2.1
theorem dX12_checker_95 : decode cX12_checker 95 = .ok (.iload_n 3, 1) := dGR_35_c_1144.2.2.1
theorem dX12_checker_96 : decode cX12_checker 96 = .ok (.aload_n 0, 1) := dGR_35_c_1144.2.2.2.1
theorem dX12_checker_97 : decode cX12_checker 97 = .ok (.getfield 13, 3) := dGR_35_c_1144.2.2.2.2.1
theorem dX12_checker_100 : decode cX12_checker 100 = .ok (.bipush 24, 2) := dGR_35_c_1144.2.2.2.2.2.1
theorem dX12_checker_102 : decode cX12_checker 102 = .ok (.iload_n 3, 1) := dGR_35_c_1144.2.2.2.2.2.2.1
theorem dX12_checker_103 : decode cX12_checker 103 = .ok (.iadd, 1) := dGR_35_c_1144.2.2.2.2.2.2.2.1
theorem dX12_checker_104 : decode cX12_checker 104 = .ok (.laload, 1) := dGR_35_c_1144.2.2.2.2.2.2.2.2.1
theorem dX12_checker_105 : decode cX12_checker 105 = .ok (.lastore, 1) := dGR_35_c_1144.2.2.2.2.2.2.2.2.2.1
theorem dX12_checker_106 : decode cX12_checker 106 = .ok (.iinc 3 1, 3) := dGR_35_c_1144.2.2.2.2.2.2.2.2.2.2.1
theorem dX12_checker_109 : decode cX12_checker 109 = .ok (.goto (-24), 3) := dGR_35_c_1144.2.2.2.2.2.2.2.2.2.2.2
set_option maxRecDepth 100000 in
theorem dGR_35_c_1145 : (decode cX12_checker 112 = .ok (.aload_n 0, 1)) ∧ (decode cX12_checker 113 = .ok (.aload_n 0, 1)) ∧ (decode cX12_checker 114 = .ok (.getfield 7, 3)) ∧ (decode cX12_checker 117 = .ok (.iconst 3, 1)) ∧ (decode cX12_checker 118 = .ok (.iaload, 1)) ∧ (decode cX12_checker 119 = .ok (.invokevirtual 279, 3)) ∧ (decode cX12_checker 122 = .ok (.ireturn, 1)) := by decide +kernel
theorem dX12_checker_112 : decode cX12_checker 112 = .ok (.aload_n 0, 1) := dGR_35_c_1145.1
theorem dX12_checker_113 : decode cX12_checker 113 = .ok (.aload_n 0, 1) := dGR_35_c_1145.2.1
theorem dX12_checker_114 : decode cX12_checker 114 = .ok (.getfield 7, 3) := dGR_35_c_1145.2.2.1
theorem dX12_checker_117 : decode cX12_checker 117 = .ok (.iconst 3, 1) := dGR_35_c_1145.2.2.2.1
theorem dX12_checker_118 : decode cX12_checker 118 = .ok (.iaload, 1) := dGR_35_c_1145.2.2.2.2.1
theorem dX12_checker_119 : decode cX12_checker 119 = .ok (.invokevirtual 279, 3) := dGR_35_c_1145.2.2.2.2.2.1
theorem dX12_checker_122 : decode cX12_checker 122 = .ok (.ireturn, 1) := dGR_35_c_1145.2.2.2.2.2.2
