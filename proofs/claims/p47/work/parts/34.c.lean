set_option maxRecDepth 100000 in
theorem dGR_34_c_1075 : (decode cX12_rule 0 = .ok (.aload_n 0, 1)) ∧ (decode cX12_rule 1 = .ok (.iload_n 1, 1)) ∧ (decode cX12_rule 2 = .ok (.iload_n 2, 1)) ∧ (decode cX12_rule 3 = .ok (.invokevirtual 291, 3)) ∧ (decode cX12_rule 6 = .ok (.ifCond .eq 12, 3)) ∧ (decode cX12_rule 9 = .ok (.iload_n 3, 1)) ∧ (decode cX12_rule 10 = .ok (.ifCond .lt 8, 3)) ∧ (decode cX12_rule 13 = .ok (.iload_n 3, 1)) ∧ (decode cX12_rule 14 = .ok (.iconst 3, 1)) ∧ (decode cX12_rule 15 = .ok (.if_icmp .le 9, 3)) ∧ (decode cX12_rule 18 = .ok (.aload_n 0, 1)) ∧ (decode cX12_rule 19 = .ok (.iconst 1, 1)) := by decide +kernel
theorem dX12_rule_0 : decode cX12_rule 0 = .ok (.aload_n 0, 1) := dGR_34_c_1075.1
theorem dX12_rule_1 : decode cX12_rule 1 = .ok (.iload_n 1, 1) := dGR_34_c_1075.2.1
theorem dX12_rule_2 : decode cX12_rule 2 = .ok (.iload_n 2, 1) := dGR_34_c_1075.2.2.1
theorem dX12_rule_3 : decode cX12_rule 3 = .ok (.invokevirtual 291, 3) := dGR_34_c_1075.2.2.2.1
theorem dX12_rule_6 : decode cX12_rule 6 = .ok (.ifCond .eq 12, 3) := dGR_34_c_1075.2.2.2.2.1
theorem dX12_rule_9 : decode cX12_rule 9 = .ok (.iload_n 3, 1) := dGR_34_c_1075.2.2.2.2.2.1
theorem dX12_rule_10 : decode cX12_rule 10 = .ok (.ifCond .lt 8, 3) := dGR_34_c_1075.2.2.2.2.2.2.1
theorem dX12_rule_13 : decode cX12_rule 13 = .ok (.iload_n 3, 1) := dGR_34_c_1075.2.2.2.2.2.2.2.1
theorem dX12_rule_14 : decode cX12_rule 14 = .ok (.iconst 3, 1) := dGR_34_c_1075.2.2.2.2.2.2.2.2.1
theorem dX12_rule_15 : decode cX12_rule 15 = .ok (.if_icmp .le 9, 3) := dGR_34_c_1075.2.2.2.2.2.2.2.2.2.1
theorem dX12_rule_18 : decode cX12_rule 18 = .ok (.aload_n 0, 1) := dGR_34_c_1075.2.2.2.2.2.2.2.2.2.2.1
theorem dX12_rule_19 : decode cX12_rule 19 = .ok (.iconst 1, 1) := dGR_34_c_1075.2.2.2.2.2.2.2.2.2.2.2
set_option maxRecDepth 100000 in
theorem dGR_34_c_1076 : (decode cX12_rule 20 = .ok (.invokevirtual 123, 3)) ∧ (decode cX12_rule 23 = .ok (.ireturn, 1)) ∧ (decode cX12_rule 24 = .ok (.aload_n 0, 1)) ∧ (decode cX12_rule 25 = .ok (.aload_n 0, 1)) ∧ (decode cX12_rule 26 = .ok (.getfield 7, 3)) ∧ (decode cX12_rule 29 = .ok (.iconst 0, 1)) ∧ (decode cX12_rule 30 = .ok (.iload_n 1, 1)) ∧ (decode cX12_rule 31 = .ok (.iload_n 2, 1)) ∧ (decode cX12_rule 32 = .ok (.invokestatic 243, 3)) ∧ (decode cX12_rule 35 = .ok (.iload_n 3, 1)) ∧ (decode cX12_rule 36 = .ok (.iadd, 1)) ∧ (decode cX12_rule 37 = .ok (.iaload, 1)) := by decide +kernel
theorem dX12_rule_20 : decode cX12_rule 20 = .ok (.invokevirtual 123, 3) := dGR_34_c_1076.1
theorem dX12_rule_23 : decode cX12_rule 23 = .ok (.ireturn, 1) := dGR_34_c_1076.2.1
theorem dX12_rule_24 : decode cX12_rule 24 = .ok (.aload_n 0, 1) := dGR_34_c_1076.2.2.1
theorem dX12_rule_25 : decode cX12_rule 25 = .ok (.aload_n 0, 1) := dGR_34_c_1076.2.2.2.1
theorem dX12_rule_26 : decode cX12_rule 26 = .ok (.getfield 7, 3) := dGR_34_c_1076.2.2.2.2.1
theorem dX12_rule_29 : decode cX12_rule 29 = .ok (.iconst 0, 1) := dGR_34_c_1076.2.2.2.2.2.1
theorem dX12_rule_30 : decode cX12_rule 30 = .ok (.iload_n 1, 1) := dGR_34_c_1076.2.2.2.2.2.2.1
theorem dX12_rule_31 : decode cX12_rule 31 = .ok (.iload_n 2, 1) := dGR_34_c_1076.2.2.2.2.2.2.2.1
theorem dX12_rule_32 : decode cX12_rule 32 = .ok (.invokestatic 243, 3) := dGR_34_c_1076.2.2.2.2.2.2.2.2.1
theorem dX12_rule_35 : decode cX12_rule 35 = .ok (.iload_n 3, 1) := dGR_34_c_1076.2.2.2.2.2.2.2.2.2.1
theorem dX12_rule_36 : decode cX12_rule 36 = .ok (.iadd, 1) := dGR_34_c_1076.2.2.2.2.2.2.2.2.2.2.1
theorem dX12_rule_37 : decode cX12_rule 37 = .ok (.iaload, 1) := dGR_34_c_1076.2.2.2.2.2.2.2.2.2.2.2
theorem dX12_rule_38 : decode cX12_rule 38 = .ok (.invokevirtual 294, 3) := by decide +kernel
theorem dX12_rule_41 : decode cX12_rule 41 = .ok (.ireturn, 1) := by decide +kernel
set_option maxRecDepth 100000 in
theorem dGR_34_c_1077 : (decode cX12_add 0 = .ok (.aload_n 0, 1)) ∧ (decode cX12_add 1 = .ok (.iload_n 1, 1)) ∧ (decode cX12_add 2 = .ok (.invokevirtual 282, 3)) ∧ (decode cX12_add 5 = .ok (.ifCond .eq 41, 3)) ∧ (decode cX12_add 8 = .ok (.aload_n 0, 1)) ∧ (decode cX12_add 9 = .ok (.iload_n 2, 1)) ∧ (decode cX12_add 10 = .ok (.invokevirtual 300, 3)) ∧ (decode cX12_add 13 = .ok (.ifCond .eq 33, 3)) ∧ (decode cX12_add 16 = .ok (.aload_n 0, 1)) ∧ (decode cX12_add 17 = .ok (.iload_n 1, 1)) ∧ (decode cX12_add 18 = .ok (.iload_n 3, 1)) ∧ (decode cX12_add 19 = .ok (.invokevirtual 303, 3)) := by decide +kernel
theorem dX12_add_0 : decode cX12_add 0 = .ok (.aload_n 0, 1) := dGR_34_c_1077.1
theorem dX12_add_1 : decode cX12_add 1 = .ok (.iload_n 1, 1) := dGR_34_c_1077.2.1
theorem dX12_add_2 : decode cX12_add 2 = .ok (.invokevirtual 282, 3) := dGR_34_c_1077.2.2.1
theorem dX12_add_5 : decode cX12_add 5 = .ok (.ifCond .eq 41, 3) := dGR_34_c_1077.2.2.2.1
theorem dX12_add_8 : decode cX12_add 8 = .ok (.aload_n 0, 1) := dGR_34_c_1077.2.2.2.2.1
theorem dX12_add_9 : decode cX12_add 9 = .ok (.iload_n 2, 1) := dGR_34_c_1077.2.2.2.2.2.1
theorem dX12_add_10 : decode cX12_add 10 = .ok (.invokevirtual 300, 3) := dGR_34_c_1077.2.2.2.2.2.2.1
theorem dX12_add_13 : decode cX12_add 13 = .ok (.ifCond .eq 33, 3) := dGR_34_c_1077.2.2.2.2.2.2.2.1
theorem dX12_add_16 : decode cX12_add 16 = .ok (.aload_n 0, 1) := dGR_34_c_1077.2.2.2.2.2.2.2.2.1
theorem dX12_add_17 : decode cX12_add 17 = .ok (.iload_n 1, 1) := dGR_34_c_1077.2.2.2.2.2.2.2.2.2.1
theorem dX12_add_18 : decode cX12_add 18 = .ok (.iload_n 3, 1) := dGR_34_c_1077.2.2.2.2.2.2.2.2.2.2.1
theorem dX12_add_19 : decode cX12_add 19 = .ok (.invokevirtual 303, 3) := dGR_34_c_1077.2.2.2.2.2.2.2.2.2.2.2
set_option maxRecDepth 100000 in
theorem dGR_34_c_1078 : (decode cX12_add 22 = .ok (.ifCond .eq 24, 3)) ∧ (decode cX12_add 25 = .ok (.aload_n 0, 1)) ∧ (decode cX12_add 26 = .ok (.iload_n 1, 1)) ∧ (decode cX12_add 27 = .ok (.iload 4, 2)) ∧ (decode cX12_add 29 = .ok (.invokevirtual 303, 3)) ∧ (decode cX12_add 32 = .ok (.ifCond .eq 14, 3)) ∧ (decode cX12_add 35 = .ok (.aload_n 0, 1)) ∧ (decode cX12_add 36 = .ok (.iload_n 1, 1)) ∧ (decode cX12_add 37 = .ok (.iload_n 2, 1)) ∧ (decode cX12_add 38 = .ok (.iload 5, 2)) ∧ (decode cX12_add 40 = .ok (.invokevirtual 306, 3)) ∧ (decode cX12_add 43 = .ok (.ifCond .ne 9, 3)) := by decide +kernel
theorem dX12_add_22 : decode cX12_add 22 = .ok (.ifCond .eq 24, 3) := dGR_34_c_1078.1
theorem dX12_add_25 : decode cX12_add 25 = .ok (.aload_n 0, 1) := dGR_34_c_1078.2.1
theorem dX12_add_26 : decode cX12_add 26 = .ok (.iload_n 1, 1) := dGR_34_c_1078.2.2.1
theorem dX12_add_27 : decode cX12_add 27 = .ok (.iload 4, 2) := dGR_34_c_1078.2.2.2.1
theorem dX12_add_29 : decode cX12_add 29 = .ok (.invokevirtual 303, 3) := dGR_34_c_1078.2.2.2.2.1
theorem dX12_add_32 : decode cX12_add 32 = .ok (.ifCond .eq 14, 3) := dGR_34_c_1078.2.2.2.2.2.1
theorem dX12_add_35 : decode cX12_add 35 = .ok (.aload_n 0, 1) := dGR_34_c_1078.2.2.2.2.2.2.1
theorem dX12_add_36 : decode cX12_add 36 = .ok (.iload_n 1, 1) := dGR_34_c_1078.2.2.2.2.2.2.2.1
theorem dX12_add_37 : decode cX12_add 37 = .ok (.iload_n 2, 1) := dGR_34_c_1078.2.2.2.2.2.2.2.2.1
theorem dX12_add_38 : decode cX12_add 38 = .ok (.iload 5, 2) := dGR_34_c_1078.2.2.2.2.2.2.2.2.2.1
theorem dX12_add_40 : decode cX12_add 40 = .ok (.invokevirtual 306, 3) := dGR_34_c_1078.2.2.2.2.2.2.2.2.2.2.1
theorem dX12_add_43 : decode cX12_add 43 = .ok (.ifCond .ne 9, 3) := dGR_34_c_1078.2.2.2.2.2.2.2.2.2.2.2
set_option maxRecDepth 100000 in
theorem dGR_34_c_1079 : (decode cX12_add 46 = .ok (.aload_n 0, 1)) ∧ (decode cX12_add 47 = .ok (.iconst 1, 1)) ∧ (decode cX12_add 48 = .ok (.invokevirtual 123, 3)) ∧ (decode cX12_add 51 = .ok (.ireturn, 1)) ∧ (decode cX12_add 52 = .ok (.aload_n 0, 1)) ∧ (decode cX12_add 53 = .ok (.iload_n 1, 1)) ∧ (decode cX12_add 54 = .ok (.iconst 4, 1)) ∧ (decode cX12_add 55 = .ok (.invokevirtual 288, 3)) ∧ (decode cX12_add 58 = .ok (.istore 6, 2)) ∧ (decode cX12_add 60 = .ok (.iload 6, 2)) ∧ (decode cX12_add 62 = .ok (.bipush 20, 2)) ∧ (decode cX12_add 64 = .ok (.if_icmp .ne 9, 3)) := by decide +kernel
theorem dX12_add_46 : decode cX12_add 46 = .ok (.aload_n 0, 1) := dGR_34_c_1079.1
theorem dX12_add_47 : decode cX12_add 47 = .ok (.iconst 1, 1) := dGR_34_c_1079.2.1
theorem dX12_add_48 : decode cX12_add 48 = .ok (.invokevirtual 123, 3) := dGR_34_c_1079.2.2.1
theorem dX12_add_51 : decode cX12_add 51 = .ok (.ireturn, 1) := dGR_34_c_1079.2.2.2.1
theorem dX12_add_52 : decode cX12_add 52 = .ok (.aload_n 0, 1) := dGR_34_c_1079.2.2.2.2.1
theorem dX12_add_53 : decode cX12_add 53 = .ok (.iload_n 1, 1) := dGR_34_c_1079.2.2.2.2.2.1
theorem dX12_add_54 : decode cX12_add 54 = .ok (.iconst 4, 1) := dGR_34_c_1079.2.2.2.2.2.2.1
theorem dX12_add_55 : decode cX12_add 55 = .ok (.invokevirtual 288, 3) := dGR_34_c_1079.2.2.2.2.2.2.2.1
theorem dX12_add_58 : decode cX12_add 58 = .ok (.istore 6, 2) := dGR_34_c_1079.2.2.2.2.2.2.2.2.1
theorem dX12_add_60 : decode cX12_add 60 = .ok (.iload 6, 2) := dGR_34_c_1079.2.2.2.2.2.2.2.2.2.1
theorem dX12_add_62 : decode cX12_add 62 = .ok (.bipush 20, 2) := dGR_34_c_1079.2.2.2.2.2.2.2.2.2.2.1
theorem dX12_add_64 : decode cX12_add 64 = .ok (.if_icmp .ne 9, 3) := dGR_34_c_1079.2.2.2.2.2.2.2.2.2.2.2
set_option maxRecDepth 100000 in
theorem dGR_34_c_1080 : (decode cX12_add 67 = .ok (.aload_n 0, 1)) ∧ (decode cX12_add 68 = .ok (.iconst 4, 1)) ∧ (decode cX12_add 69 = .ok (.invokevirtual 123, 3)) ∧ (decode cX12_add 72 = .ok (.ireturn, 1)) ∧ (decode cX12_add 73 = .ok (.aload_n 0, 1)) ∧ (decode cX12_add 74 = .ok (.iconst 0, 1)) ∧ (decode cX12_add 75 = .ok (.iload_n 1, 1)) ∧ (decode cX12_add 76 = .ok (.iload 6, 2)) ∧ (decode cX12_add 78 = .ok (.iload_n 2, 1)) ∧ (decode cX12_add 79 = .ok (.iload_n 3, 1)) ∧ (decode cX12_add 80 = .ok (.iload 4, 2)) ∧ (decode cX12_add 82 = .ok (.iload 5, 2)) := by decide +kernel
theorem dX12_add_67 : decode cX12_add 67 = .ok (.aload_n 0, 1) := dGR_34_c_1080.1
theorem dX12_add_68 : decode cX12_add 68 = .ok (.iconst 4, 1) := dGR_34_c_1080.2.1
theorem dX12_add_69 : decode cX12_add 69 = .ok (.invokevirtual 123, 3) := dGR_34_c_1080.2.2.1
theorem dX12_add_72 : decode cX12_add 72 = .ok (.ireturn, 1) := dGR_34_c_1080.2.2.2.1
theorem dX12_add_73 : decode cX12_add 73 = .ok (.aload_n 0, 1) := dGR_34_c_1080.2.2.2.2.1
theorem dX12_add_74 : decode cX12_add 74 = .ok (.iconst 0, 1) := dGR_34_c_1080.2.2.2.2.2.1
theorem dX12_add_75 : decode cX12_add 75 = .ok (.iload_n 1, 1) := dGR_34_c_1080.2.2.2.2.2.2.1
theorem dX12_add_76 : decode cX12_add 76 = .ok (.iload 6, 2) := dGR_34_c_1080.2.2.2.2.2.2.2.1
theorem dX12_add_78 : decode cX12_add 78 = .ok (.iload_n 2, 1) := dGR_34_c_1080.2.2.2.2.2.2.2.2.1
theorem dX12_add_79 : decode cX12_add 79 = .ok (.iload_n 3, 1) := dGR_34_c_1080.2.2.2.2.2.2.2.2.2.1
theorem dX12_add_80 : decode cX12_add 80 = .ok (.iload 4, 2) := dGR_34_c_1080.2.2.2.2.2.2.2.2.2.2.1
theorem dX12_add_82 : decode cX12_add 82 = .ok (.iload 5, 2) := dGR_34_c_1080.2.2.2.2.2.2.2.2.2.2.2
set_option maxRecDepth 100000 in
theorem dGR_34_c_1081 : (decode cX12_add 84 = .ok (.invokevirtual 253, 3)) ∧ (decode cX12_add 87 = .ok (.ifCond .eq 10, 3)) ∧ (decode cX12_add 90 = .ok (.aload_n 0, 1)) ∧ (decode cX12_add 91 = .ok (.bipush 7, 2)) ∧ (decode cX12_add 93 = .ok (.invokevirtual 123, 3)) ∧ (decode cX12_add 96 = .ok (.ireturn, 1)) ∧ (decode cX12_add 97 = .ok (.iconst 0, 1)) ∧ (decode cX12_add 98 = .ok (.iload_n 1, 1)) ∧ (decode cX12_add 99 = .ok (.iload 6, 2)) ∧ (decode cX12_add 101 = .ok (.invokestatic 243, 3)) ∧ (decode cX12_add 104 = .ok (.istore 7, 2)) ∧ (decode cX12_add 106 = .ok (.aload_n 0, 1)) := by decide +kernel
theorem dX12_add_84 : decode cX12_add 84 = .ok (.invokevirtual 253, 3) := dGR_34_c_1081.1
theorem dX12_add_87 : decode cX12_add 87 = .ok (.ifCond .eq 10, 3) := dGR_34_c_1081.2.1
theorem dX12_add_90 : decode cX12_add 90 = .ok (.aload_n 0, 1) := dGR_34_c_1081.2.2.1
theorem dX12_add_91 : decode cX12_add 91 = .ok (.bipush 7, 2) := dGR_34_c_1081.2.2.2.1
theorem dX12_add_93 : decode cX12_add 93 = .ok (.invokevirtual 123, 3) := dGR_34_c_1081.2.2.2.2.1
theorem dX12_add_96 : decode cX12_add 96 = .ok (.ireturn, 1) := dGR_34_c_1081.2.2.2.2.2.1
theorem dX12_add_97 : decode cX12_add 97 = .ok (.iconst 0, 1) := dGR_34_c_1081.2.2.2.2.2.2.1
theorem dX12_add_98 : decode cX12_add 98 = .ok (.iload_n 1, 1) := dGR_34_c_1081.2.2.2.2.2.2.2.1
theorem dX12_add_99 : decode cX12_add 99 = .ok (.iload 6, 2) := dGR_34_c_1081.2.2.2.2.2.2.2.2.1
theorem dX12_add_101 : decode cX12_add 101 = .ok (.invokestatic 243, 3) := dGR_34_c_1081.2.2.2.2.2.2.2.2.2.1
theorem dX12_add_104 : decode cX12_add 104 = .ok (.istore 7, 2) := dGR_34_c_1081.2.2.2.2.2.2.2.2.2.2.1
theorem dX12_add_106 : decode cX12_add 106 = .ok (.aload_n 0, 1) := dGR_34_c_1081.2.2.2.2.2.2.2.2.2.2.2
set_option maxRecDepth 100000 in
theorem dGR_34_c_1082 : (decode cX12_add 107 = .ok (.getfield 7, 3)) ∧ (decode cX12_add 110 = .ok (.iload 7, 2)) ∧ (decode cX12_add 112 = .ok (.iload_n 2, 1)) ∧ (decode cX12_add 113 = .ok (.iastore, 1)) ∧ (decode cX12_add 114 = .ok (.aload_n 0, 1)) ∧ (decode cX12_add 115 = .ok (.getfield 7, 3)) ∧ (decode cX12_add 118 = .ok (.iload 7, 2)) ∧ (decode cX12_add 120 = .ok (.iconst 1, 1)) ∧ (decode cX12_add 121 = .ok (.iadd, 1)) ∧ (decode cX12_add 122 = .ok (.iload_n 3, 1)) ∧ (decode cX12_add 123 = .ok (.iastore, 1)) ∧ (decode cX12_add 124 = .ok (.aload_n 0, 1)) := by decide +kernel
theorem dX12_add_107 : decode cX12_add 107 = .ok (.getfield 7, 3) := dGR_34_c_1082.1
theorem dX12_add_110 : decode cX12_add 110 = .ok (.iload 7, 2) := dGR_34_c_1082.2.1
theorem dX12_add_112 : decode cX12_add 112 = .ok (.iload_n 2, 1) := dGR_34_c_1082.2.2.1
theorem dX12_add_113 : decode cX12_add 113 = .ok (.iastore, 1) := dGR_34_c_1082.2.2.2.1
theorem dX12_add_114 : decode cX12_add 114 = .ok (.aload_n 0, 1) := dGR_34_c_1082.2.2.2.2.1
theorem dX12_add_115 : decode cX12_add 115 = .ok (.getfield 7, 3) := dGR_34_c_1082.2.2.2.2.2.1
theorem dX12_add_118 : decode cX12_add 118 = .ok (.iload 7, 2) := dGR_34_c_1082.2.2.2.2.2.2.1
theorem dX12_add_120 : decode cX12_add 120 = .ok (.iconst 1, 1) := dGR_34_c_1082.2.2.2.2.2.2.2.1
theorem dX12_add_121 : decode cX12_add 121 = .ok (.iadd, 1) := dGR_34_c_1082.2.2.2.2.2.2.2.2.1
theorem dX12_add_122 : decode cX12_add 122 = .ok (.iload_n 3, 1) := dGR_34_c_1082.2.2.2.2.2.2.2.2.2.1
theorem dX12_add_123 : decode cX12_add 123 = .ok (.iastore, 1) := dGR_34_c_1082.2.2.2.2.2.2.2.2.2.2.1
theorem dX12_add_124 : decode cX12_add 124 = .ok (.aload_n 0, 1) := dGR_34_c_1082.2.2.2.2.2.2.2.2.2.2.2
set_option maxRecDepth 100000 in
theorem dGR_34_c_1083 : (decode cX12_add 125 = .ok (.getfield 7, 3)) ∧ (decode cX12_add 128 = .ok (.iload 7, 2)) ∧ (decode cX12_add 130 = .ok (.iconst 2, 1)) ∧ (decode cX12_add 131 = .ok (.iadd, 1)) ∧ (decode cX12_add 132 = .ok (.iload 4, 2)) ∧ (decode cX12_add 134 = .ok (.iastore, 1)) ∧ (decode cX12_add 135 = .ok (.aload_n 0, 1)) ∧ (decode cX12_add 136 = .ok (.getfield 7, 3)) ∧ (decode cX12_add 139 = .ok (.iload 7, 2)) ∧ (decode cX12_add 141 = .ok (.iconst 3, 1)) ∧ (decode cX12_add 142 = .ok (.iadd, 1)) ∧ (decode cX12_add 143 = .ok (.iload 5, 2)) := by decide +kernel
theorem dX12_add_125 : decode cX12_add 125 = .ok (.getfield 7, 3) := dGR_34_c_1083.1
theorem dX12_add_128 : decode cX12_add 128 = .ok (.iload 7, 2) := dGR_34_c_1083.2.1
theorem dX12_add_130 : decode cX12_add 130 = .ok (.iconst 2, 1) := dGR_34_c_1083.2.2.1
theorem dX12_add_131 : decode cX12_add 131 = .ok (.iadd, 1) := dGR_34_c_1083.2.2.2.1
theorem dX12_add_132 : decode cX12_add 132 = .ok (.iload 4, 2) := dGR_34_c_1083.2.2.2.2.1
theorem dX12_add_134 : decode cX12_add 134 = .ok (.iastore, 1) := dGR_34_c_1083.2.2.2.2.2.1
theorem dX12_add_135 : decode cX12_add 135 = .ok (.aload_n 0, 1) := dGR_34_c_1083.2.2.2.2.2.2.1
theorem dX12_add_136 : decode cX12_add 136 = .ok (.getfield 7, 3) := dGR_34_c_1083.2.2.2.2.2.2.2.1
theorem dX12_add_139 : decode cX12_add 139 = .ok (.iload 7, 2) := dGR_34_c_1083.2.2.2.2.2.2.2.2.1
theorem dX12_add_141 : decode cX12_add 141 = .ok (.iconst 3, 1) := dGR_34_c_1083.2.2.2.2.2.2.2.2.2.1
theorem dX12_add_142 : decode cX12_add 142 = .ok (.iadd, 1) := dGR_34_c_1083.2.2.2.2.2.2.2.2.2.2.1
theorem dX12_add_143 : decode cX12_add 143 = .ok (.iload 5, 2) := dGR_34_c_1083.2.2.2.2.2.2.2.2.2.2.2
set_option maxRecDepth 100000 in
theorem dGR_34_c_1084 : (decode cX12_add 145 = .ok (.iastore, 1)) ∧ (decode cX12_add 146 = .ok (.aload_n 0, 1)) ∧ (decode cX12_add 147 = .ok (.getfield 7, 3)) ∧ (decode cX12_add 150 = .ok (.iconst 0, 1)) ∧ (decode cX12_add 151 = .ok (.iload_n 1, 1)) ∧ (decode cX12_add 152 = .ok (.invokestatic 216, 3)) ∧ (decode cX12_add 155 = .ok (.iconst 4, 1)) ∧ (decode cX12_add 156 = .ok (.iadd, 1)) ∧ (decode cX12_add 157 = .ok (.dup2, 1)) ∧ (decode cX12_add 158 = .ok (.iaload, 1)) ∧ (decode cX12_add 159 = .ok (.iconst 1, 1)) ∧ (decode cX12_add 160 = .ok (.iadd, 1)) := by decide +kernel
theorem dX12_add_145 : decode cX12_add 145 = .ok (.iastore, 1) := dGR_34_c_1084.1
theorem dX12_add_146 : decode cX12_add 146 = .ok (.aload_n 0, 1) := dGR_34_c_1084.2.1
theorem dX12_add_147 : decode cX12_add 147 = .ok (.getfield 7, 3) := dGR_34_c_1084.2.2.1
theorem dX12_add_150 : decode cX12_add 150 = .ok (.iconst 0, 1) := dGR_34_c_1084.2.2.2.1
theorem dX12_add_151 : decode cX12_add 151 = .ok (.iload_n 1, 1) := dGR_34_c_1084.2.2.2.2.1
theorem dX12_add_152 : decode cX12_add 152 = .ok (.invokestatic 216, 3) := dGR_34_c_1084.2.2.2.2.2.1
theorem dX12_add_155 : decode cX12_add 155 = .ok (.iconst 4, 1) := dGR_34_c_1084.2.2.2.2.2.2.1
theorem dX12_add_156 : decode cX12_add 156 = .ok (.iadd, 1) := dGR_34_c_1084.2.2.2.2.2.2.2.1
theorem dX12_add_157 : decode cX12_add 157 = .ok (.dup2, 1) := dGR_34_c_1084.2.2.2.2.2.2.2.2.1
theorem dX12_add_158 : decode cX12_add 158 = .ok (.iaload, 1) := dGR_34_c_1084.2.2.2.2.2.2.2.2.2.1
theorem dX12_add_159 : decode cX12_add 159 = .ok (.iconst 1, 1) := dGR_34_c_1084.2.2.2.2.2.2.2.2.2.2.1
theorem dX12_add_160 : decode cX12_add 160 = .ok (.iadd, 1) := dGR_34_c_1084.2.2.2.2.2.2.2.2.2.2.2
set_option maxRecDepth 100000 in
theorem dGR_34_c_1085 : (decode cX12_add 161 = .ok (.iastore, 1)) ∧ (decode cX12_add 162 = .ok (.aload_n 0, 1)) ∧ (decode cX12_add 163 = .ok (.iload 6, 2)) ∧ (decode cX12_add 165 = .ok (.iconst 1, 1)) ∧ (decode cX12_add 166 = .ok (.iadd, 1)) ∧ (decode cX12_add 167 = .ok (.invokevirtual 127, 3)) ∧ (decode cX12_add 170 = .ok (.ireturn, 1)) := by decide +kernel
theorem dX12_add_161 : decode cX12_add 161 = .ok (.iastore, 1) := dGR_34_c_1085.1
theorem dX12_add_162 : decode cX12_add 162 = .ok (.aload_n 0, 1) := dGR_34_c_1085.2.1
theorem dX12_add_163 : decode cX12_add 163 = .ok (.iload 6, 2) := dGR_34_c_1085.2.2.1
theorem dX12_add_165 : decode cX12_add 165 = .ok (.iconst 1, 1) := dGR_34_c_1085.2.2.2.1
theorem dX12_add_166 : decode cX12_add 166 = .ok (.iadd, 1) := dGR_34_c_1085.2.2.2.2.1
theorem dX12_add_167 : decode cX12_add 167 = .ok (.invokevirtual 127, 3) := dGR_34_c_1085.2.2.2.2.2.1
theorem dX12_add_170 : decode cX12_add 170 = .ok (.ireturn, 1) := dGR_34_c_1085.2.2.2.2.2.2
set_option maxRecDepth 100000 in
theorem dGR_34_c_1086 : (decode cX12_drop 0 = .ok (.aload_n 0, 1)) ∧ (decode cX12_drop 1 = .ok (.iload_n 1, 1)) ∧ (decode cX12_drop 2 = .ok (.iload_n 2, 1)) ∧ (decode cX12_drop 3 = .ok (.invokevirtual 291, 3)) ∧ (decode cX12_drop 6 = .ok (.ifCond .ne 9, 3)) ∧ (decode cX12_drop 9 = .ok (.aload_n 0, 1)) ∧ (decode cX12_drop 10 = .ok (.iconst 1, 1)) ∧ (decode cX12_drop 11 = .ok (.invokevirtual 123, 3)) ∧ (decode cX12_drop 14 = .ok (.ireturn, 1)) ∧ (decode cX12_drop 15 = .ok (.aload_n 0, 1)) ∧ (decode cX12_drop 16 = .ok (.iload_n 1, 1)) ∧ (decode cX12_drop 17 = .ok (.iconst 4, 1)) := by decide +kernel
theorem dX12_drop_0 : decode cX12_drop 0 = .ok (.aload_n 0, 1) := dGR_34_c_1086.1
theorem dX12_drop_1 : decode cX12_drop 1 = .ok (.iload_n 1, 1) := dGR_34_c_1086.2.1
theorem dX12_drop_2 : decode cX12_drop 2 = .ok (.iload_n 2, 1) := dGR_34_c_1086.2.2.1
theorem dX12_drop_3 : decode cX12_drop 3 = .ok (.invokevirtual 291, 3) := dGR_34_c_1086.2.2.2.1
theorem dX12_drop_6 : decode cX12_drop 6 = .ok (.ifCond .ne 9, 3) := dGR_34_c_1086.2.2.2.2.1
theorem dX12_drop_9 : decode cX12_drop 9 = .ok (.aload_n 0, 1) := dGR_34_c_1086.2.2.2.2.2.1
theorem dX12_drop_10 : decode cX12_drop 10 = .ok (.iconst 1, 1) := dGR_34_c_1086.2.2.2.2.2.2.1
theorem dX12_drop_11 : decode cX12_drop 11 = .ok (.invokevirtual 123, 3) := dGR_34_c_1086.2.2.2.2.2.2.2.1
theorem dX12_drop_14 : decode cX12_drop 14 = .ok (.ireturn, 1) := dGR_34_c_1086.2.2.2.2.2.2.2.2.1
theorem dX12_drop_15 : decode cX12_drop 15 = .ok (.aload_n 0, 1) := dGR_34_c_1086.2.2.2.2.2.2.2.2.2.1
theorem dX12_drop_16 : decode cX12_drop 16 = .ok (.iload_n 1, 1) := dGR_34_c_1086.2.2.2.2.2.2.2.2.2.2.1
theorem dX12_drop_17 : decode cX12_drop 17 = .ok (.iconst 4, 1) := dGR_34_c_1086.2.2.2.2.2.2.2.2.2.2.2
set_option maxRecDepth 100000 in
theorem dGR_34_c_1087 : (decode cX12_drop 18 = .ok (.invokevirtual 288, 3)) ∧ (decode cX12_drop 21 = .ok (.iconst 1, 1)) ∧ (decode cX12_drop 22 = .ok (.isub, 1)) ∧ (decode cX12_drop 23 = .ok (.istore_n 3, 1)) ∧ (decode cX12_drop 24 = .ok (.iconst 0, 1)) ∧ (decode cX12_drop 25 = .ok (.iload_n 1, 1)) ∧ (decode cX12_drop 26 = .ok (.iload_n 2, 1)) ∧ (decode cX12_drop 27 = .ok (.invokestatic 243, 3)) ∧ (decode cX12_drop 30 = .ok (.istore 4, 2)) ∧ (decode cX12_drop 32 = .ok (.iload 4, 2)) ∧ (decode cX12_drop 34 = .ok (.iconst 0, 1)) ∧ (decode cX12_drop 35 = .ok (.iload_n 1, 1)) := by decide +kernel
theorem dX12_drop_18 : decode cX12_drop 18 = .ok (.invokevirtual 288, 3) := dGR_34_c_1087.1
theorem dX12_drop_21 : decode cX12_drop 21 = .ok (.iconst 1, 1) := dGR_34_c_1087.2.1
theorem dX12_drop_22 : decode cX12_drop 22 = .ok (.isub, 1) := dGR_34_c_1087.2.2.1
theorem dX12_drop_23 : decode cX12_drop 23 = .ok (.istore_n 3, 1) := dGR_34_c_1087.2.2.2.1
theorem dX12_drop_24 : decode cX12_drop 24 = .ok (.iconst 0, 1) := dGR_34_c_1087.2.2.2.2.1
theorem dX12_drop_25 : decode cX12_drop 25 = .ok (.iload_n 1, 1) := dGR_34_c_1087.2.2.2.2.2.1
theorem dX12_drop_26 : decode cX12_drop 26 = .ok (.iload_n 2, 1) := dGR_34_c_1087.2.2.2.2.2.2.1
theorem dX12_drop_27 : decode cX12_drop 27 = .ok (.invokestatic 243, 3) := dGR_34_c_1087.2.2.2.2.2.2.2.1
theorem dX12_drop_30 : decode cX12_drop 30 = .ok (.istore 4, 2) := dGR_34_c_1087.2.2.2.2.2.2.2.2.1
theorem dX12_drop_32 : decode cX12_drop 32 = .ok (.iload 4, 2) := dGR_34_c_1087.2.2.2.2.2.2.2.2.2.1
theorem dX12_drop_34 : decode cX12_drop 34 = .ok (.iconst 0, 1) := dGR_34_c_1087.2.2.2.2.2.2.2.2.2.2.1
theorem dX12_drop_35 : decode cX12_drop 35 = .ok (.iload_n 1, 1) := dGR_34_c_1087.2.2.2.2.2.2.2.2.2.2.2
set_option maxRecDepth 100000 in
theorem dGR_34_c_1088 : (decode cX12_drop 36 = .ok (.iload_n 3, 1)) ∧ (decode cX12_drop 37 = .ok (.invokestatic 243, 3)) ∧ (decode cX12_drop 40 = .ok (.if_icmp .ge 25, 3)) ∧ (decode cX12_drop 43 = .ok (.aload_n 0, 1)) ∧ (decode cX12_drop 44 = .ok (.getfield 7, 3)) ∧ (decode cX12_drop 47 = .ok (.iload 4, 2)) ∧ (decode cX12_drop 49 = .ok (.aload_n 0, 1)) ∧ (decode cX12_drop 50 = .ok (.getfield 7, 3)) ∧ (decode cX12_drop 53 = .ok (.iload 4, 2)) ∧ (decode cX12_drop 55 = .ok (.iconst 4, 1)) ∧ (decode cX12_drop 56 = .ok (.iadd, 1)) ∧ (decode cX12_drop 57 = .ok (.iaload, 1)) := by decide +kernel
theorem dX12_drop_36 : decode cX12_drop 36 = .ok (.iload_n 3, 1) := dGR_34_c_1088.1
theorem dX12_drop_37 : decode cX12_drop 37 = .ok (.invokestatic 243, 3) := dGR_34_c_1088.2.1
theorem dX12_drop_40 : decode cX12_drop 40 = .ok (.if_icmp .ge 25, 3) := dGR_34_c_1088.2.2.1
theorem dX12_drop_43 : decode cX12_drop 43 = .ok (.aload_n 0, 1) := dGR_34_c_1088.2.2.2.1
theorem dX12_drop_44 : decode cX12_drop 44 = .ok (.getfield 7, 3) := dGR_34_c_1088.2.2.2.2.1
theorem dX12_drop_47 : decode cX12_drop 47 = .ok (.iload 4, 2) := dGR_34_c_1088.2.2.2.2.2.1
theorem dX12_drop_49 : decode cX12_drop 49 = .ok (.aload_n 0, 1) := dGR_34_c_1088.2.2.2.2.2.2.1
theorem dX12_drop_50 : decode cX12_drop 50 = .ok (.getfield 7, 3) := dGR_34_c_1088.2.2.2.2.2.2.2.1
theorem dX12_drop_53 : decode cX12_drop 53 = .ok (.iload 4, 2) := dGR_34_c_1088.2.2.2.2.2.2.2.2.1
theorem dX12_drop_55 : decode cX12_drop 55 = .ok (.iconst 4, 1) := dGR_34_c_1088.2.2.2.2.2.2.2.2.2.1
theorem dX12_drop_56 : decode cX12_drop 56 = .ok (.iadd, 1) := dGR_34_c_1088.2.2.2.2.2.2.2.2.2.2.1
theorem dX12_drop_57 : decode cX12_drop 57 = .ok (.iaload, 1) := dGR_34_c_1088.2.2.2.2.2.2.2.2.2.2.2
set_option maxRecDepth 100000 in
theorem dGR_34_c_1089 : (decode cX12_drop 58 = .ok (.iastore, 1)) ∧ (decode cX12_drop 59 = .ok (.iinc 4 1, 3)) ∧ (decode cX12_drop 62 = .ok (.goto (-30), 3)) ∧ (decode cX12_drop 65 = .ok (.aload_n 0, 1)) ∧ (decode cX12_drop 66 = .ok (.getfield 7, 3)) ∧ (decode cX12_drop 69 = .ok (.iconst 0, 1)) ∧ (decode cX12_drop 70 = .ok (.iload_n 1, 1)) ∧ (decode cX12_drop 71 = .ok (.invokestatic 216, 3)) ∧ (decode cX12_drop 74 = .ok (.iconst 4, 1)) ∧ (decode cX12_drop 75 = .ok (.iadd, 1)) ∧ (decode cX12_drop 76 = .ok (.iload_n 3, 1)) ∧ (decode cX12_drop 77 = .ok (.iastore, 1)) := by decide +kernel
theorem dX12_drop_58 : decode cX12_drop 58 = .ok (.iastore, 1) := dGR_34_c_1089.1
theorem dX12_drop_59 : decode cX12_drop 59 = .ok (.iinc 4 1, 3) := dGR_34_c_1089.2.1
theorem dX12_drop_62 : decode cX12_drop 62 = .ok (.goto (-30), 3) := dGR_34_c_1089.2.2.1
theorem dX12_drop_65 : decode cX12_drop 65 = .ok (.aload_n 0, 1) := dGR_34_c_1089.2.2.2.1
theorem dX12_drop_66 : decode cX12_drop 66 = .ok (.getfield 7, 3) := dGR_34_c_1089.2.2.2.2.1
theorem dX12_drop_69 : decode cX12_drop 69 = .ok (.iconst 0, 1) := dGR_34_c_1089.2.2.2.2.2.1
theorem dX12_drop_70 : decode cX12_drop 70 = .ok (.iload_n 1, 1) := dGR_34_c_1089.2.2.2.2.2.2.1
theorem dX12_drop_71 : decode cX12_drop 71 = .ok (.invokestatic 216, 3) := dGR_34_c_1089.2.2.2.2.2.2.2.1
theorem dX12_drop_74 : decode cX12_drop 74 = .ok (.iconst 4, 1) := dGR_34_c_1089.2.2.2.2.2.2.2.2.1
theorem dX12_drop_75 : decode cX12_drop 75 = .ok (.iadd, 1) := dGR_34_c_1089.2.2.2.2.2.2.2.2.2.1
theorem dX12_drop_76 : decode cX12_drop 76 = .ok (.iload_n 3, 1) := dGR_34_c_1089.2.2.2.2.2.2.2.2.2.2.1
theorem dX12_drop_77 : decode cX12_drop 77 = .ok (.iastore, 1) := dGR_34_c_1089.2.2.2.2.2.2.2.2.2.2.2
set_option maxRecDepth 100000 in
theorem dGR_34_c_1090 : (decode cX12_drop 78 = .ok (.aload_n 0, 1)) ∧ (decode cX12_drop 79 = .ok (.iload_n 3, 1)) ∧ (decode cX12_drop 80 = .ok (.invokevirtual 127, 3)) ∧ (decode cX12_drop 83 = .ok (.ireturn, 1)) := by decide +kernel
theorem dX12_drop_78 : decode cX12_drop 78 = .ok (.aload_n 0, 1) := dGR_34_c_1090.1
theorem dX12_drop_79 : decode cX12_drop 79 = .ok (.iload_n 3, 1) := dGR_34_c_1090.2.1
theorem dX12_drop_80 : decode cX12_drop 80 = .ok (.invokevirtual 127, 3) := dGR_34_c_1090.2.2.1
theorem dX12_drop_83 : decode cX12_drop 83 = .ok (.ireturn, 1) := dGR_34_c_1090.2.2.2
set_option maxRecDepth 100000 in
theorem dGR_34_c_1091 : (decode cX12_setsState 0 = .ok (.aload_n 0, 1)) ∧ (decode cX12_setsState 1 = .ok (.iload_n 1, 1)) ∧ (decode cX12_setsState 2 = .ok (.invokevirtual 282, 3)) ∧ (decode cX12_setsState 5 = .ok (.ifCond .eq 12, 3)) ∧ (decode cX12_setsState 8 = .ok (.aload_n 0, 1)) ∧ (decode cX12_setsState 9 = .ok (.iload_n 1, 1)) ∧ (decode cX12_setsState 10 = .ok (.iload_n 2, 1)) ∧ (decode cX12_setsState 11 = .ok (.invokevirtual 303, 3)) ∧ (decode cX12_setsState 14 = .ok (.ifCond .ne 9, 3)) ∧ (decode cX12_setsState 17 = .ok (.aload_n 0, 1)) ∧ (decode cX12_setsState 18 = .ok (.iconst 1, 1)) ∧ (decode cX12_setsState 19 = .ok (.invokevirtual 123, 3)) := by decide +kernel
theorem dX12_setsState_0 : decode cX12_setsState 0 = .ok (.aload_n 0, 1) := dGR_34_c_1091.1
theorem dX12_setsState_1 : decode cX12_setsState 1 = .ok (.iload_n 1, 1) := dGR_34_c_1091.2.1
theorem dX12_setsState_2 : decode cX12_setsState 2 = .ok (.invokevirtual 282, 3) := dGR_34_c_1091.2.2.1
theorem dX12_setsState_5 : decode cX12_setsState 5 = .ok (.ifCond .eq 12, 3) := dGR_34_c_1091.2.2.2.1
theorem dX12_setsState_8 : decode cX12_setsState 8 = .ok (.aload_n 0, 1) := dGR_34_c_1091.2.2.2.2.1
theorem dX12_setsState_9 : decode cX12_setsState 9 = .ok (.iload_n 1, 1) := dGR_34_c_1091.2.2.2.2.2.1
theorem dX12_setsState_10 : decode cX12_setsState 10 = .ok (.iload_n 2, 1) := dGR_34_c_1091.2.2.2.2.2.2.1
theorem dX12_setsState_11 : decode cX12_setsState 11 = .ok (.invokevirtual 303, 3) := dGR_34_c_1091.2.2.2.2.2.2.2.1
theorem dX12_setsState_14 : decode cX12_setsState 14 = .ok (.ifCond .ne 9, 3) := dGR_34_c_1091.2.2.2.2.2.2.2.2.1
theorem dX12_setsState_17 : decode cX12_setsState 17 = .ok (.aload_n 0, 1) := dGR_34_c_1091.2.2.2.2.2.2.2.2.2.1
theorem dX12_setsState_18 : decode cX12_setsState 18 = .ok (.iconst 1, 1) := dGR_34_c_1091.2.2.2.2.2.2.2.2.2.2.1
theorem dX12_setsState_19 : decode cX12_setsState 19 = .ok (.invokevirtual 123, 3) := dGR_34_c_1091.2.2.2.2.2.2.2.2.2.2.2
set_option maxRecDepth 100000 in
theorem dGR_34_c_1092 : (decode cX12_setsState 22 = .ok (.ireturn, 1)) ∧ (decode cX12_setsState 23 = .ok (.aload_n 0, 1)) ∧ (decode cX12_setsState 24 = .ok (.aload_n 0, 1)) ∧ (decode cX12_setsState 25 = .ok (.iload_n 1, 1)) ∧ (decode cX12_setsState 26 = .ok (.iload 4, 2)) ∧ (decode cX12_setsState 28 = .ok (.invokevirtual 288, 3)) ∧ (decode cX12_setsState 31 = .ok (.iload_n 2, 1)) ∧ (decode cX12_setsState 32 = .ok (.invokevirtual 239, 3)) ∧ (decode cX12_setsState 35 = .ok (.iload_n 3, 1)) ∧ (decode cX12_setsState 36 = .ok (.if_icmp .ne 10, 3)) ∧ (decode cX12_setsState 39 = .ok (.aload_n 0, 1)) ∧ (decode cX12_setsState 40 = .ok (.bipush 7, 2)) := by decide +kernel
theorem dX12_setsState_22 : decode cX12_setsState 22 = .ok (.ireturn, 1) := dGR_34_c_1092.1
theorem dX12_setsState_23 : decode cX12_setsState 23 = .ok (.aload_n 0, 1) := dGR_34_c_1092.2.1
theorem dX12_setsState_24 : decode cX12_setsState 24 = .ok (.aload_n 0, 1) := dGR_34_c_1092.2.2.1
theorem dX12_setsState_25 : decode cX12_setsState 25 = .ok (.iload_n 1, 1) := dGR_34_c_1092.2.2.2.1
theorem dX12_setsState_26 : decode cX12_setsState 26 = .ok (.iload 4, 2) := dGR_34_c_1092.2.2.2.2.1
theorem dX12_setsState_28 : decode cX12_setsState 28 = .ok (.invokevirtual 288, 3) := dGR_34_c_1092.2.2.2.2.2.1
theorem dX12_setsState_31 : decode cX12_setsState 31 = .ok (.iload_n 2, 1) := dGR_34_c_1092.2.2.2.2.2.2.1
theorem dX12_setsState_32 : decode cX12_setsState 32 = .ok (.invokevirtual 239, 3) := dGR_34_c_1092.2.2.2.2.2.2.2.1
theorem dX12_setsState_35 : decode cX12_setsState 35 = .ok (.iload_n 3, 1) := dGR_34_c_1092.2.2.2.2.2.2.2.2.1
theorem dX12_setsState_36 : decode cX12_setsState 36 = .ok (.if_icmp .ne 10, 3) := dGR_34_c_1092.2.2.2.2.2.2.2.2.2.1
theorem dX12_setsState_39 : decode cX12_setsState 39 = .ok (.aload_n 0, 1) := dGR_34_c_1092.2.2.2.2.2.2.2.2.2.2.1
theorem dX12_setsState_40 : decode cX12_setsState 40 = .ok (.bipush 7, 2) := dGR_34_c_1092.2.2.2.2.2.2.2.2.2.2.2
set_option maxRecDepth 100000 in
theorem dGR_34_c_1093 : (decode cX12_setsState 42 = .ok (.invokevirtual 123, 3)) ∧ (decode cX12_setsState 45 = .ok (.ireturn, 1)) ∧ (decode cX12_setsState 46 = .ok (.aload_n 0, 1)) ∧ (decode cX12_setsState 47 = .ok (.getfield 7, 3)) ∧ (decode cX12_setsState 50 = .ok (.iconst 0, 1)) ∧ (decode cX12_setsState 51 = .ok (.iload_n 1, 1)) ∧ (decode cX12_setsState 52 = .ok (.invokestatic 216, 3)) ∧ (decode cX12_setsState 55 = .ok (.iload 4, 2)) ∧ (decode cX12_setsState 57 = .ok (.iadd, 1)) ∧ (decode cX12_setsState 58 = .ok (.dup2, 1)) ∧ (decode cX12_setsState 59 = .ok (.iaload, 1)) ∧ (decode cX12_setsState 60 = .ok (.iconst 1, 1)) := by decide +kernel
theorem dX12_setsState_42 : decode cX12_setsState 42 = .ok (.invokevirtual 123, 3) := dGR_34_c_1093.1
theorem dX12_setsState_45 : decode cX12_setsState 45 = .ok (.ireturn, 1) := dGR_34_c_1093.2.1
theorem dX12_setsState_46 : decode cX12_setsState 46 = .ok (.aload_n 0, 1) := dGR_34_c_1093.2.2.1
theorem dX12_setsState_47 : decode cX12_setsState 47 = .ok (.getfield 7, 3) := dGR_34_c_1093.2.2.2.1
theorem dX12_setsState_50 : decode cX12_setsState 50 = .ok (.iconst 0, 1) := dGR_34_c_1093.2.2.2.2.1
theorem dX12_setsState_51 : decode cX12_setsState 51 = .ok (.iload_n 1, 1) := dGR_34_c_1093.2.2.2.2.2.1
theorem dX12_setsState_52 : decode cX12_setsState 52 = .ok (.invokestatic 216, 3) := dGR_34_c_1093.2.2.2.2.2.2.1
theorem dX12_setsState_55 : decode cX12_setsState 55 = .ok (.iload 4, 2) := dGR_34_c_1093.2.2.2.2.2.2.2.1
theorem dX12_setsState_57 : decode cX12_setsState 57 = .ok (.iadd, 1) := dGR_34_c_1093.2.2.2.2.2.2.2.2.1
theorem dX12_setsState_58 : decode cX12_setsState 58 = .ok (.dup2, 1) := dGR_34_c_1093.2.2.2.2.2.2.2.2.2.1
theorem dX12_setsState_59 : decode cX12_setsState 59 = .ok (.iaload, 1) := dGR_34_c_1093.2.2.2.2.2.2.2.2.2.2.1
theorem dX12_setsState_60 : decode cX12_setsState 60 = .ok (.iconst 1, 1) := dGR_34_c_1093.2.2.2.2.2.2.2.2.2.2.2
set_option maxRecDepth 100000 in
theorem dGR_34_c_1094 : (decode cX12_setsState 61 = .ok (.iload_n 2, 1)) ∧ (decode cX12_setsState 62 = .ok (.ishl, 1)) ∧ (decode cX12_setsState 63 = .ok (.ixor, 1)) ∧ (decode cX12_setsState 64 = .ok (.iastore, 1)) ∧ (decode cX12_setsState 65 = .ok (.aload_n 0, 1)) ∧ (decode cX12_setsState 66 = .ok (.aload_n 0, 1)) ∧ (decode cX12_setsState 67 = .ok (.iload_n 1, 1)) ∧ (decode cX12_setsState 68 = .ok (.iload 4, 2)) ∧ (decode cX12_setsState 70 = .ok (.invokevirtual 288, 3)) ∧ (decode cX12_setsState 73 = .ok (.invokevirtual 127, 3)) ∧ (decode cX12_setsState 76 = .ok (.ireturn, 1)) := by decide +kernel
theorem dX12_setsState_61 : decode cX12_setsState 61 = .ok (.iload_n 2, 1) := dGR_34_c_1094.1
theorem dX12_setsState_62 : decode cX12_setsState 62 = .ok (.ishl, 1) := dGR_34_c_1094.2.1
theorem dX12_setsState_63 : decode cX12_setsState 63 = .ok (.ixor, 1) := dGR_34_c_1094.2.2.1
theorem dX12_setsState_64 : decode cX12_setsState 64 = .ok (.iastore, 1) := dGR_34_c_1094.2.2.2.1
theorem dX12_setsState_65 : decode cX12_setsState 65 = .ok (.aload_n 0, 1) := dGR_34_c_1094.2.2.2.2.1
theorem dX12_setsState_66 : decode cX12_setsState 66 = .ok (.aload_n 0, 1) := dGR_34_c_1094.2.2.2.2.2.1
theorem dX12_setsState_67 : decode cX12_setsState 67 = .ok (.iload_n 1, 1) := dGR_34_c_1094.2.2.2.2.2.2.1
theorem dX12_setsState_68 : decode cX12_setsState 68 = .ok (.iload 4, 2) := dGR_34_c_1094.2.2.2.2.2.2.2.1
theorem dX12_setsState_70 : decode cX12_setsState 70 = .ok (.invokevirtual 288, 3) := dGR_34_c_1094.2.2.2.2.2.2.2.2.1
theorem dX12_setsState_73 : decode cX12_setsState 73 = .ok (.invokevirtual 127, 3) := dGR_34_c_1094.2.2.2.2.2.2.2.2.2.1
theorem dX12_setsState_76 : decode cX12_setsState 76 = .ok (.ireturn, 1) := dGR_34_c_1094.2.2.2.2.2.2.2.2.2.2
set_option maxRecDepth 100000 in
theorem dGR_34_c_1095 : (decode cX12_start 0 = .ok (.aload_n 0, 1)) ∧ (decode cX12_start 1 = .ok (.iload_n 1, 1)) ∧ (decode cX12_start 2 = .ok (.iload_n 2, 1)) ∧ (decode cX12_start 3 = .ok (.iload_n 3, 1)) ∧ (decode cX12_start 4 = .ok (.iconst 2, 1)) ∧ (decode cX12_start 5 = .ok (.invokevirtual 309, 3)) ∧ (decode cX12_start 8 = .ok (.ireturn, 1)) := by decide +kernel
theorem dX12_start_0 : decode cX12_start 0 = .ok (.aload_n 0, 1) := dGR_34_c_1095.1
theorem dX12_start_1 : decode cX12_start 1 = .ok (.iload_n 1, 1) := dGR_34_c_1095.2.1
theorem dX12_start_2 : decode cX12_start 2 = .ok (.iload_n 2, 1) := dGR_34_c_1095.2.2.1
theorem dX12_start_3 : decode cX12_start 3 = .ok (.iload_n 3, 1) := dGR_34_c_1095.2.2.2.1
theorem dX12_start_4 : decode cX12_start 4 = .ok (.iconst 2, 1) := dGR_34_c_1095.2.2.2.2.1
theorem dX12_start_5 : decode cX12_start 5 = .ok (.invokevirtual 309, 3) := dGR_34_c_1095.2.2.2.2.2.1
theorem dX12_start_8 : decode cX12_start 8 = .ok (.ireturn, 1) := dGR_34_c_1095.2.2.2.2.2.2
set_option maxRecDepth 100000 in
theorem dGR_34_c_1096 : (decode cX12_accept 0 = .ok (.aload_n 0, 1)) ∧ (decode cX12_accept 1 = .ok (.iload_n 1, 1)) ∧ (decode cX12_accept 2 = .ok (.iload_n 2, 1)) ∧ (decode cX12_accept 3 = .ok (.iload_n 3, 1)) ∧ (decode cX12_accept 4 = .ok (.iconst 3, 1)) ∧ (decode cX12_accept 5 = .ok (.invokevirtual 309, 3)) ∧ (decode cX12_accept 8 = .ok (.ireturn, 1)) := by decide +kernel
theorem dX12_accept_0 : decode cX12_accept 0 = .ok (.aload_n 0, 1) := dGR_34_c_1096.1
theorem dX12_accept_1 : decode cX12_accept 1 = .ok (.iload_n 1, 1) := dGR_34_c_1096.2.1
theorem dX12_accept_2 : decode cX12_accept 2 = .ok (.iload_n 2, 1) := dGR_34_c_1096.2.2.1
theorem dX12_accept_3 : decode cX12_accept 3 = .ok (.iload_n 3, 1) := dGR_34_c_1096.2.2.2.1
theorem dX12_accept_4 : decode cX12_accept 4 = .ok (.iconst 3, 1) := dGR_34_c_1096.2.2.2.2.1
theorem dX12_accept_5 : decode cX12_accept 5 = .ok (.invokevirtual 309, 3) := dGR_34_c_1096.2.2.2.2.2.1
theorem dX12_accept_8 : decode cX12_accept 8 = .ok (.ireturn, 1) := dGR_34_c_1096.2.2.2.2.2.2
set_option maxRecDepth 100000 in
theorem dGR_34_c_1097 : (decode cX12_copy 0 = .ok (.aload_n 0, 1)) ∧ (decode cX12_copy 1 = .ok (.iload_n 1, 1)) ∧ (decode cX12_copy 2 = .ok (.iload_n 2, 1)) ∧ (decode cX12_copy 3 = .ok (.invokevirtual 313, 3)) ∧ (decode cX12_copy 6 = .ok (.ifCond .ne 9, 3)) ∧ (decode cX12_copy 9 = .ok (.aload_n 0, 1)) ∧ (decode cX12_copy 10 = .ok (.iconst 1, 1)) ∧ (decode cX12_copy 11 = .ok (.invokevirtual 130, 3)) ∧ (decode cX12_copy 14 = .ok (.ireturn, 1)) ∧ (decode cX12_copy 15 = .ok (.iconst 0, 1)) ∧ (decode cX12_copy 16 = .ok (.istore_n 3, 1)) ∧ (decode cX12_copy 17 = .ok (.iload_n 3, 1)) := by decide +kernel
theorem dX12_copy_0 : decode cX12_copy 0 = .ok (.aload_n 0, 1) := dGR_34_c_1097.1
theorem dX12_copy_1 : decode cX12_copy 1 = .ok (.iload_n 1, 1) := dGR_34_c_1097.2.1
theorem dX12_copy_2 : decode cX12_copy 2 = .ok (.iload_n 2, 1) := dGR_34_c_1097.2.2.1
theorem dX12_copy_3 : decode cX12_copy 3 = .ok (.invokevirtual 313, 3) := dGR_34_c_1097.2.2.2.1
theorem dX12_copy_6 : decode cX12_copy 6 = .ok (.ifCond .ne 9, 3) := dGR_34_c_1097.2.2.2.2.1
theorem dX12_copy_9 : decode cX12_copy 9 = .ok (.aload_n 0, 1) := dGR_34_c_1097.2.2.2.2.2.1
theorem dX12_copy_10 : decode cX12_copy 10 = .ok (.iconst 1, 1) := dGR_34_c_1097.2.2.2.2.2.2.1
theorem dX12_copy_11 : decode cX12_copy 11 = .ok (.invokevirtual 130, 3) := dGR_34_c_1097.2.2.2.2.2.2.2.1
theorem dX12_copy_14 : decode cX12_copy 14 = .ok (.ireturn, 1) := dGR_34_c_1097.2.2.2.2.2.2.2.2.1
theorem dX12_copy_15 : decode cX12_copy 15 = .ok (.iconst 0, 1) := dGR_34_c_1097.2.2.2.2.2.2.2.2.2.1
theorem dX12_copy_16 : decode cX12_copy 16 = .ok (.istore_n 3, 1) := dGR_34_c_1097.2.2.2.2.2.2.2.2.2.2.1
theorem dX12_copy_17 : decode cX12_copy 17 = .ok (.iload_n 3, 1) := dGR_34_c_1097.2.2.2.2.2.2.2.2.2.2.2
set_option maxRecDepth 100000 in
theorem dGR_34_c_1098 : (decode cX12_copy 18 = .ok (.bipush 85, 2)) ∧ (decode cX12_copy 20 = .ok (.if_icmp .ge 33, 3)) ∧ (decode cX12_copy 23 = .ok (.aload_n 0, 1)) ∧ (decode cX12_copy 24 = .ok (.getfield 7, 3)) ∧ (decode cX12_copy 27 = .ok (.iconst 0, 1)) ∧ (decode cX12_copy 28 = .ok (.iload_n 2, 1)) ∧ (decode cX12_copy 29 = .ok (.invokestatic 216, 3)) ∧ (decode cX12_copy 32 = .ok (.iload_n 3, 1)) ∧ (decode cX12_copy 33 = .ok (.iadd, 1)) ∧ (decode cX12_copy 34 = .ok (.aload_n 0, 1)) ∧ (decode cX12_copy 35 = .ok (.getfield 7, 3)) ∧ (decode cX12_copy 38 = .ok (.iconst 0, 1)) := by decide +kernel
theorem dX12_copy_18 : decode cX12_copy 18 = .ok (.bipush 85, 2) := dGR_34_c_1098.1
theorem dX12_copy_20 : decode cX12_copy 20 = .ok (.if_icmp .ge 33, 3) := dGR_34_c_1098.2.1
theorem dX12_copy_23 : decode cX12_copy 23 = .ok (.aload_n 0, 1) := dGR_34_c_1098.2.2.1
theorem dX12_copy_24 : decode cX12_copy 24 = .ok (.getfield 7, 3) := dGR_34_c_1098.2.2.2.1
theorem dX12_copy_27 : decode cX12_copy 27 = .ok (.iconst 0, 1) := dGR_34_c_1098.2.2.2.2.1
theorem dX12_copy_28 : decode cX12_copy 28 = .ok (.iload_n 2, 1) := dGR_34_c_1098.2.2.2.2.2.1
theorem dX12_copy_29 : decode cX12_copy 29 = .ok (.invokestatic 216, 3) := dGR_34_c_1098.2.2.2.2.2.2.1
theorem dX12_copy_32 : decode cX12_copy 32 = .ok (.iload_n 3, 1) := dGR_34_c_1098.2.2.2.2.2.2.2.1
theorem dX12_copy_33 : decode cX12_copy 33 = .ok (.iadd, 1) := dGR_34_c_1098.2.2.2.2.2.2.2.2.1
theorem dX12_copy_34 : decode cX12_copy 34 = .ok (.aload_n 0, 1) := dGR_34_c_1098.2.2.2.2.2.2.2.2.2.1
theorem dX12_copy_35 : decode cX12_copy 35 = .ok (.getfield 7, 3) := dGR_34_c_1098.2.2.2.2.2.2.2.2.2.2.1
theorem dX12_copy_38 : decode cX12_copy 38 = .ok (.iconst 0, 1) := dGR_34_c_1098.2.2.2.2.2.2.2.2.2.2.2
set_option maxRecDepth 100000 in
theorem dGR_34_c_1099 : (decode cX12_copy 39 = .ok (.iload_n 1, 1)) ∧ (decode cX12_copy 40 = .ok (.invokestatic 216, 3)) ∧ (decode cX12_copy 43 = .ok (.iload_n 3, 1)) ∧ (decode cX12_copy 44 = .ok (.iadd, 1)) ∧ (decode cX12_copy 45 = .ok (.iaload, 1)) ∧ (decode cX12_copy 46 = .ok (.iastore, 1)) ∧ (decode cX12_copy 47 = .ok (.iinc 3 1, 3)) ∧ (decode cX12_copy 50 = .ok (.goto (-33), 3)) ∧ (decode cX12_copy 53 = .ok (.aload_n 0, 1)) ∧ (decode cX12_copy 54 = .ok (.iconst 0, 1)) ∧ (decode cX12_copy 55 = .ok (.invokevirtual 130, 3)) ∧ (decode cX12_copy 58 = .ok (.ireturn, 1)) := by decide +kernel
theorem dX12_copy_39 : decode cX12_copy 39 = .ok (.iload_n 1, 1) := dGR_34_c_1099.1
theorem dX12_copy_40 : decode cX12_copy 40 = .ok (.invokestatic 216, 3) := dGR_34_c_1099.2.1
theorem dX12_copy_43 : decode cX12_copy 43 = .ok (.iload_n 3, 1) := dGR_34_c_1099.2.2.1
theorem dX12_copy_44 : decode cX12_copy 44 = .ok (.iadd, 1) := dGR_34_c_1099.2.2.2.1
theorem dX12_copy_45 : decode cX12_copy 45 = .ok (.iaload, 1) := dGR_34_c_1099.2.2.2.2.1
theorem dX12_copy_46 : decode cX12_copy 46 = .ok (.iastore, 1) := dGR_34_c_1099.2.2.2.2.2.1
theorem dX12_copy_47 : decode cX12_copy 47 = .ok (.iinc 3 1, 3) := dGR_34_c_1099.2.2.2.2.2.2.1
theorem dX12_copy_50 : decode cX12_copy 50 = .ok (.goto (-33), 3) := dGR_34_c_1099.2.2.2.2.2.2.2.1
theorem dX12_copy_53 : decode cX12_copy 53 = .ok (.aload_n 0, 1) := dGR_34_c_1099.2.2.2.2.2.2.2.2.1
theorem dX12_copy_54 : decode cX12_copy 54 = .ok (.iconst 0, 1) := dGR_34_c_1099.2.2.2.2.2.2.2.2.2.1
theorem dX12_copy_55 : decode cX12_copy 55 = .ok (.invokevirtual 130, 3) := dGR_34_c_1099.2.2.2.2.2.2.2.2.2.2.1
theorem dX12_copy_58 : decode cX12_copy 58 = .ok (.ireturn, 1) := dGR_34_c_1099.2.2.2.2.2.2.2.2.2.2.2
set_option maxRecDepth 100000 in
theorem dGR_34_c_1100 : (decode cX12_copies 0 = .ok (.iconst 0, 1)) ∧ (decode cX12_copies 1 = .ok (.istore_n 3, 1)) ∧ (decode cX12_copies 2 = .ok (.iload_n 3, 1)) ∧ (decode cX12_copies 3 = .ok (.sipush 272, 3)) ∧ (decode cX12_copies 6 = .ok (.if_icmp .ge 33, 3)) ∧ (decode cX12_copies 9 = .ok (.aload_n 0, 1)) ∧ (decode cX12_copies 10 = .ok (.getfield 7, 3)) ∧ (decode cX12_copies 13 = .ok (.sipush 272, 3)) ∧ (decode cX12_copies 16 = .ok (.iload_n 2, 1)) ∧ (decode cX12_copies 17 = .ok (.imul, 1)) ∧ (decode cX12_copies 18 = .ok (.iload_n 3, 1)) ∧ (decode cX12_copies 19 = .ok (.iadd, 1)) := by decide +kernel
theorem dX12_copies_0 : decode cX12_copies 0 = .ok (.iconst 0, 1) := dGR_34_c_1100.1
theorem dX12_copies_1 : decode cX12_copies 1 = .ok (.istore_n 3, 1) := dGR_34_c_1100.2.1
theorem dX12_copies_2 : decode cX12_copies 2 = .ok (.iload_n 3, 1) := dGR_34_c_1100.2.2.1
theorem dX12_copies_3 : decode cX12_copies 3 = .ok (.sipush 272, 3) := dGR_34_c_1100.2.2.2.1
theorem dX12_copies_6 : decode cX12_copies 6 = .ok (.if_icmp .ge 33, 3) := dGR_34_c_1100.2.2.2.2.1
theorem dX12_copies_9 : decode cX12_copies 9 = .ok (.aload_n 0, 1) := dGR_34_c_1100.2.2.2.2.2.1
theorem dX12_copies_10 : decode cX12_copies 10 = .ok (.getfield 7, 3) := dGR_34_c_1100.2.2.2.2.2.2.1
theorem dX12_copies_13 : decode cX12_copies 13 = .ok (.sipush 272, 3) := dGR_34_c_1100.2.2.2.2.2.2.2.1
theorem dX12_copies_16 : decode cX12_copies 16 = .ok (.iload_n 2, 1) := dGR_34_c_1100.2.2.2.2.2.2.2.2.1
theorem dX12_copies_17 : decode cX12_copies 17 = .ok (.imul, 1) := dGR_34_c_1100.2.2.2.2.2.2.2.2.2.1
theorem dX12_copies_18 : decode cX12_copies 18 = .ok (.iload_n 3, 1) := dGR_34_c_1100.2.2.2.2.2.2.2.2.2.2.1
theorem dX12_copies_19 : decode cX12_copies 19 = .ok (.iadd, 1) := dGR_34_c_1100.2.2.2.2.2.2.2.2.2.2.2
set_option maxRecDepth 100000 in
theorem dGR_34_c_1101 : (decode cX12_copies 20 = .ok (.aload_n 0, 1)) ∧ (decode cX12_copies 21 = .ok (.getfield 7, 3)) ∧ (decode cX12_copies 24 = .ok (.sipush 272, 3)) ∧ (decode cX12_copies 27 = .ok (.iload_n 1, 1)) ∧ (decode cX12_copies 28 = .ok (.imul, 1)) ∧ (decode cX12_copies 29 = .ok (.iload_n 3, 1)) ∧ (decode cX12_copies 30 = .ok (.iadd, 1)) ∧ (decode cX12_copies 31 = .ok (.iaload, 1)) ∧ (decode cX12_copies 32 = .ok (.iastore, 1)) ∧ (decode cX12_copies 33 = .ok (.iinc 3 1, 3)) ∧ (decode cX12_copies 36 = .ok (.goto (-34), 3)) ∧ (decode cX12_copies 39 = .ok (.iconst 0, 1)) := by decide +kernel
theorem dX12_copies_20 : decode cX12_copies 20 = .ok (.aload_n 0, 1) := dGR_34_c_1101.1
theorem dX12_copies_21 : decode cX12_copies 21 = .ok (.getfield 7, 3) := dGR_34_c_1101.2.1
theorem dX12_copies_24 : decode cX12_copies 24 = .ok (.sipush 272, 3) := dGR_34_c_1101.2.2.1
theorem dX12_copies_27 : decode cX12_copies 27 = .ok (.iload_n 1, 1) := dGR_34_c_1101.2.2.2.1
theorem dX12_copies_28 : decode cX12_copies 28 = .ok (.imul, 1) := dGR_34_c_1101.2.2.2.2.1
theorem dX12_copies_29 : decode cX12_copies 29 = .ok (.iload_n 3, 1) := dGR_34_c_1101.2.2.2.2.2.1
theorem dX12_copies_30 : decode cX12_copies 30 = .ok (.iadd, 1) := dGR_34_c_1101.2.2.2.2.2.2.1
theorem dX12_copies_31 : decode cX12_copies 31 = .ok (.iaload, 1) := dGR_34_c_1101.2.2.2.2.2.2.2.1
theorem dX12_copies_32 : decode cX12_copies 32 = .ok (.iastore, 1) := dGR_34_c_1101.2.2.2.2.2.2.2.2.1
theorem dX12_copies_33 : decode cX12_copies 33 = .ok (.iinc 3 1, 3) := dGR_34_c_1101.2.2.2.2.2.2.2.2.2.1
theorem dX12_copies_36 : decode cX12_copies 36 = .ok (.goto (-34), 3) := dGR_34_c_1101.2.2.2.2.2.2.2.2.2.2.1
theorem dX12_copies_39 : decode cX12_copies 39 = .ok (.iconst 0, 1) := dGR_34_c_1101.2.2.2.2.2.2.2.2.2.2.2
set_option maxRecDepth 100000 in
theorem dGR_34_c_1102 : (decode cX12_copies 40 = .ok (.istore_n 3, 1)) ∧ (decode cX12_copies 41 = .ok (.iload_n 3, 1)) ∧ (decode cX12_copies 42 = .ok (.bipush 6, 2)) ∧ (decode cX12_copies 44 = .ok (.if_icmp .ge 31, 3)) ∧ (decode cX12_copies 47 = .ok (.aload_n 0, 1)) ∧ (decode cX12_copies 48 = .ok (.getfield 13, 3)) ∧ (decode cX12_copies 51 = .ok (.bipush 6, 2)) ∧ (decode cX12_copies 53 = .ok (.iload_n 2, 1)) ∧ (decode cX12_copies 54 = .ok (.imul, 1)) ∧ (decode cX12_copies 55 = .ok (.iload_n 3, 1)) ∧ (decode cX12_copies 56 = .ok (.iadd, 1)) ∧ (decode cX12_copies 57 = .ok (.aload_n 0, 1)) := by decide +kernel
theorem dX12_copies_40 : decode cX12_copies 40 = .ok (.istore_n 3, 1) := dGR_34_c_1102.1
theorem dX12_copies_41 : decode cX12_copies 41 = .ok (.iload_n 3, 1) := dGR_34_c_1102.2.1
theorem dX12_copies_42 : decode cX12_copies 42 = .ok (.bipush 6, 2) := dGR_34_c_1102.2.2.1
theorem dX12_copies_44 : decode cX12_copies 44 = .ok (.if_icmp .ge 31, 3) := dGR_34_c_1102.2.2.2.1
theorem dX12_copies_47 : decode cX12_copies 47 = .ok (.aload_n 0, 1) := dGR_34_c_1102.2.2.2.2.1
theorem dX12_copies_48 : decode cX12_copies 48 = .ok (.getfield 13, 3) := dGR_34_c_1102.2.2.2.2.2.1
theorem dX12_copies_51 : decode cX12_copies 51 = .ok (.bipush 6, 2) := dGR_34_c_1102.2.2.2.2.2.2.1
theorem dX12_copies_53 : decode cX12_copies 53 = .ok (.iload_n 2, 1) := dGR_34_c_1102.2.2.2.2.2.2.2.1
theorem dX12_copies_54 : decode cX12_copies 54 = .ok (.imul, 1) := dGR_34_c_1102.2.2.2.2.2.2.2.2.1
theorem dX12_copies_55 : decode cX12_copies 55 = .ok (.iload_n 3, 1) := dGR_34_c_1102.2.2.2.2.2.2.2.2.2.1
theorem dX12_copies_56 : decode cX12_copies 56 = .ok (.iadd, 1) := dGR_34_c_1102.2.2.2.2.2.2.2.2.2.2.1
theorem dX12_copies_57 : decode cX12_copies 57 = .ok (.aload_n 0, 1) := dGR_34_c_1102.2.2.2.2.2.2.2.2.2.2.2
set_option maxRecDepth 100000 in
theorem dGR_34_c_1103 : (decode cX12_copies 58 = .ok (.getfield 13, 3)) ∧ (decode cX12_copies 61 = .ok (.bipush 6, 2)) ∧ (decode cX12_copies 63 = .ok (.iload_n 1, 1)) ∧ (decode cX12_copies 64 = .ok (.imul, 1)) ∧ (decode cX12_copies 65 = .ok (.iload_n 3, 1)) ∧ (decode cX12_copies 66 = .ok (.iadd, 1)) ∧ (decode cX12_copies 67 = .ok (.laload, 1)) ∧ (decode cX12_copies 68 = .ok (.lastore, 1)) ∧ (decode cX12_copies 69 = .ok (.iinc 3 1, 3)) ∧ (decode cX12_copies 72 = .ok (.goto (-31), 3)) ∧ (decode cX12_copies 75 = .ok (.return_, 1)) := by decide +kernel
theorem dX12_copies_58 : decode cX12_copies 58 = .ok (.getfield 13, 3) := dGR_34_c_1103.1
theorem dX12_copies_61 : decode cX12_copies 61 = .ok (.bipush 6, 2) := dGR_34_c_1103.2.1
theorem dX12_copies_63 : decode cX12_copies 63 = .ok (.iload_n 1, 1) := dGR_34_c_1103.2.2.1
theorem dX12_copies_64 : decode cX12_copies 64 = .ok (.imul, 1) := dGR_34_c_1103.2.2.2.1
theorem dX12_copies_65 : decode cX12_copies 65 = .ok (.iload_n 3, 1) := dGR_34_c_1103.2.2.2.2.1
theorem dX12_copies_66 : decode cX12_copies 66 = .ok (.iadd, 1) := dGR_34_c_1103.2.2.2.2.2.1
theorem dX12_copies_67 : decode cX12_copies 67 = .ok (.laload, 1) := dGR_34_c_1103.2.2.2.2.2.2.1
theorem dX12_copies_68 : decode cX12_copies 68 = .ok (.lastore, 1) := dGR_34_c_1103.2.2.2.2.2.2.2.1
theorem dX12_copies_69 : decode cX12_copies 69 = .ok (.iinc 3 1, 3) := dGR_34_c_1103.2.2.2.2.2.2.2.2.1
theorem dX12_copies_72 : decode cX12_copies 72 = .ok (.goto (-31), 3) := dGR_34_c_1103.2.2.2.2.2.2.2.2.2.1
theorem dX12_copies_75 : decode cX12_copies 75 = .ok (.return_, 1) := dGR_34_c_1103.2.2.2.2.2.2.2.2.2.2
abbrev f_c_X12_copies : List (Nat × Int) := [(65, -1), (66, -1)]
set_option maxHeartbeats 4000000 in
set_option maxRecDepth 100000 in
theorem c_X12_copies (G : KG) (l : Launch) (M : Mem) (a1 : Int) (a2 : Int) (hI_M : Inv true M) (hpre : -2147483648 ≤ a1 ∧ a1 ≤ 2147483647 ∧ -2147483648 ≤ a2 ∧ a2 ≤ 2147483647 ∧ 0 ≤ a1 ∧ a1 ≤ 3 ∧ 0 ≤ a2 ∧ a2 ≤ 3 ∧ a1 ≠ a2) : KC true G l yX12_copies cX12_copies 4 none (0, 0) [vR G 163, vI a1, vI a2] M (fun A => kQv true G A (fun (N : Mem) => Inv true N ∧ Fr f_c_X12_copies M N ∧ (CPk N M (272 * a2) (272 * a1) 272))) := by
  refine kx_met (lo := [some (vR G 163), some (vI a1), some (vI a2), none]) (by decide) (Nat.le_of_ble_eq_true rfl) rfl ?_
  intro X F hQ
  have hF_M : Fr f_c_X12_copies M M := Fr.rf _ _
  refine kx_iconst 1 F dX12_copies_0 rfl ?_
  refine kx_istore_n 2 F 3 (lo' := [some (vR G 163), some (vI a1), some (vI a2), some (vI 0)]) dX12_copies_1 rfl (by decide) rfl rfl rfl ?_
  have L_151 : ∀ (n_152 : Nat) (x3_149 : Int) (N_150 : Mem), Inv true N_150 → Fr f_c_X12_copies M N_150 → CPk N_150 M (272 * a2) (272 * a1) x3_149 → 0 ≤ x3_149 ∧ x3_149 ≤ 272 → (272 - (x3_149)).toNat = n_152 → KJ true G X N_150 2 [some (vR G 163), some (vI a1), some (vI a2), some (vI x3_149)] [] := by
    intro n_152
    refine Nat.strongRecOn n_152 ?_
    intro n_152 ih_153 x3_149 N_150 hI_N_150 hF_N_150 hp_156 h_154 hm_155
    refine kx_iload_n 3 F 3 dX12_copies_2 rfl rfl rfl ?_
    refine kx_sipush 6 F dX12_copies_3 (by decide) rfl ?_
    refine kx_icmp_ge 9 F 39 dX12_copies_6 (by decide) rfl (by omega) (by decide) (fun h_157 => ?_) (fun h_157 => ?_)
    · refine kx_iconst 40 F dX12_copies_39 rfl ?_
      refine kx_istore_n 41 F 3 (lo' := [some (vR G 163), some (vI a1), some (vI a2), some (vI 0)]) dX12_copies_40 rfl (by decide) rfl rfl rfl ?_
      have L_195 : ∀ (n_196 : Nat) (x3_193 : Int) (N_194 : Mem), Inv true N_194 → Fr f_c_X12_copies M N_194 → CPk N_194 M (272 * a2) (272 * a1) 272 → 0 ≤ x3_193 ∧ x3_193 ≤ 6 → (6 - (x3_193)).toNat = n_196 → KJ true G X N_194 41 [some (vR G 163), some (vI a1), some (vI a2), some (vI x3_193)] [] := by
        intro n_196
        refine Nat.strongRecOn n_196 ?_
        intro n_196 ih_197 x3_193 N_194 hI_N_194 hF_N_194 hp_200 h_198 hm_199
        refine kx_iload_n 42 F 3 dX12_copies_41 rfl rfl rfl ?_
        refine kx_bipush 44 F dX12_copies_42 (by decide) rfl ?_
        refine kx_icmp_ge 47 F 75 dX12_copies_44 (by decide) rfl (by omega) (by decide) (fun h_201 => ?_) (fun h_201 => ?_)
        · exact kx_vret F hQ ⟨hI_N_194, hF_N_194, hp_200⟩ dX12_copies_75
        · refine kx_aload_n 48 F 0 dX12_copies_47 rfl rfl rfl ?_
          refine kx_getr 51 F fl_X12_13 kd_163 rfl rfl (j := 1) rfl dX12_copies_48 (v := 165) (uq_165 (Inv.r hI_N_194 kd_163 rfl 1 rfl rfl)) rfl ?_
          refine kx_bipush 53 F dX12_copies_51 (by decide) rfl ?_
          refine kx_iload_n 54 F 2 dX12_copies_53 rfl rfl rfl ?_
          refine kx_imul 55 F (v := 6 * a2) dX12_copies_54 (by omega) rfl ?_
          refine kx_iload_n 56 F 3 dX12_copies_55 rfl rfl rfl ?_
          refine kx_iadd 57 F (v := 6 * a2 + x3_193) dX12_copies_56 rfl rfl ?_
          refine kx_aload_n 58 F 0 dX12_copies_57 rfl rfl rfl ?_
          refine kx_getr 61 F fl_X12_13 kd_163 rfl rfl (j := 1) rfl dX12_copies_58 (v := 165) (uq_165 (Inv.r hI_N_194 kd_163 rfl 1 rfl rfl)) rfl ?_
          refine kx_bipush 63 F dX12_copies_61 (by decide) rfl ?_
          refine kx_iload_n 64 F 1 dX12_copies_63 rfl rfl rfl ?_
          refine kx_imul 65 F (v := 6 * a1) dX12_copies_64 (by omega) rfl ?_
          refine kx_iload_n 66 F 3 dX12_copies_65 rfl rfl rfl ?_
          refine kx_iadd 67 F (v := 6 * a1 + x3_193) dX12_copies_66 rfl rfl ?_
          refine kx_lald 68 F kd_165 rfl rfl (by omega) (by decide) dX12_copies_67 (v := (N_194 165 (6 * a1 + x3_193))) rfl rfl ?_
          have h_202 := Inv.g hI_N_194 kd_165 rfl (6 * a1 + x3_193) (a := (-9223372036854775808)) (b := 9223372036854775807) rfl rfl
          refine kx_last 69 F kd_165 rfl rfl (by omega) (by decide) dX12_copies_68 rfl ?_
          intro N_203 hM_N_203
          have hI_N_203 : Inv true N_203 := Inv.u hI_N_194 hM_N_203 kd_165 (a := (-9223372036854775808)) (b := 9223372036854775807) rfl rfl rfl (by omega)
          have hF_N_203 : Fr f_c_X12_copies M N_203 := Fr.u hF_N_194 hM_N_203 kd_165 rfl
          refine kx_iinc 72 F 3 (v := x3_193 + 1) (lo' := [some (vR G 163), some (vI a1), some (vI a2), some (vI (x3_193 + 1))]) dX12_copies_69 rfl (by omega) (by decide) rfl rfl rfl ?_
          refine kx_goto 41 F dX12_copies_72 (by decide) ?_
          have hp_204 : CPk N_203 M (272 * a2) (272 * a1) 272 := CPk.st hp_200 hM_N_203 kd_165 rfl
          exact ih_197 _ (by omega) (x3_193 + 1) N_203 hI_N_203 hF_N_203 (hp_204.at (by omega)) (by omega) rfl
      exact L_195 _ 0 N_150 hI_N_150 hF_N_150 (hp_156.at (by omega)) (by omega) rfl
    · refine kx_aload_n 10 F 0 dX12_copies_9 rfl rfl rfl ?_
      refine kx_getr 13 F fl_X12_7 kd_163 rfl rfl (j := 0) rfl dX12_copies_10 (v := 164) (uq_164 (Inv.r hI_N_150 kd_163 rfl 0 rfl rfl)) rfl ?_
      refine kx_sipush 16 F dX12_copies_13 (by decide) rfl ?_
      refine kx_iload_n 17 F 2 dX12_copies_16 rfl rfl rfl ?_
      refine kx_imul 18 F (v := 272 * a2) dX12_copies_17 (by omega) rfl ?_
      refine kx_iload_n 19 F 3 dX12_copies_18 rfl rfl rfl ?_
      refine kx_iadd 20 F (v := 272 * a2 + x3_149) dX12_copies_19 rfl rfl ?_
      refine kx_aload_n 21 F 0 dX12_copies_20 rfl rfl rfl ?_
      refine kx_getr 24 F fl_X12_7 kd_163 rfl rfl (j := 0) rfl dX12_copies_21 (v := 164) (uq_164 (Inv.r hI_N_150 kd_163 rfl 0 rfl rfl)) rfl ?_
      refine kx_sipush 27 F dX12_copies_24 (by decide) rfl ?_
      refine kx_iload_n 28 F 1 dX12_copies_27 rfl rfl rfl ?_
      refine kx_imul 29 F (v := 272 * a1) dX12_copies_28 (by omega) rfl ?_
      refine kx_iload_n 30 F 3 dX12_copies_29 rfl rfl rfl ?_
      refine kx_iadd 31 F (v := 272 * a1 + x3_149) dX12_copies_30 rfl rfl ?_
      refine kx_iald 32 F kd_164 rfl rfl (by omega) (by decide) dX12_copies_31 (v := (N_150 164 (272 * a1 + x3_149))) rfl rfl ?_
      have h_205 := Inv.g hI_N_150 kd_164 rfl (272 * a1 + x3_149) (a := atlo (272 * a1 + x3_149)) (b := athi (272 * a1 + x3_149)) rfl rfl
      have h_206 := at_w (272 * a1 + x3_149)
      refine kx_iast 33 F kd_164 rfl rfl (by omega) (by decide) dX12_copies_32 rfl ?_
      intro N_207 hM_N_207
      have h_208 := at_0 (272 * a2 + x3_149)
      have h_209 := at_q (272 * a2 + x3_149) (272 * a1 + x3_149) (by omega)
      have hI_N_207 : Inv true N_207 := Inv.u hI_N_150 hM_N_207 kd_164 (a := atlo (272 * a2 + x3_149)) (b := athi (272 * a2 + x3_149)) rfl rfl rfl (by omega)
      have hF_N_207 : Fr f_c_X12_copies M N_207 := Fr.u hF_N_150 hM_N_207 kd_164 rfl
      refine kx_iinc 36 F 3 (v := x3_149 + 1) (lo' := [some (vR G 163), some (vI a1), some (vI a2), some (vI (x3_149 + 1))]) dX12_copies_33 rfl (by omega) (by decide) rfl rfl rfl ?_
      refine kx_goto 2 F dX12_copies_36 (by decide) ?_
      exact ih_153 _ (by omega) (x3_149 + 1) N_207 hI_N_207 hF_N_207 (CPk.step hp_156 (by omega) hM_N_207 (by omega) rfl (by omega) (by omega) (by omega)) (by omega) rfl
  exact L_151 _ 0 M hI_M hF_M ((CPk.nil _ _).at (by omega)) (by omega) rfl
set_option maxRecDepth 100000 in
theorem dGR_34_c_1104 : (decode cX12_mark 0 = .ok (.aload_n 0, 1)) ∧ (decode cX12_mark 1 = .ok (.getfield 535, 3)) ∧ (decode cX12_mark 4 = .ok (.iconst 3, 1)) ∧ (decode cX12_mark 5 = .ok (.if_icmp .ne 9, 3)) ∧ (decode cX12_mark 8 = .ok (.aload_n 0, 1)) ∧ (decode cX12_mark 9 = .ok (.iconst 4, 1)) ∧ (decode cX12_mark 10 = .ok (.invokevirtual 123, 3)) ∧ (decode cX12_mark 13 = .ok (.ireturn, 1)) ∧ (decode cX12_mark 14 = .ok (.aload_n 0, 1)) ∧ (decode cX12_mark 15 = .ok (.dup, 1)) ∧ (decode cX12_mark 16 = .ok (.getfield 535, 3)) ∧ (decode cX12_mark 19 = .ok (.iconst 1, 1)) := by decide +kernel
theorem dX12_mark_0 : decode cX12_mark 0 = .ok (.aload_n 0, 1) := dGR_34_c_1104.1
theorem dX12_mark_1 : decode cX12_mark 1 = .ok (.getfield 535, 3) := dGR_34_c_1104.2.1
theorem dX12_mark_4 : decode cX12_mark 4 = .ok (.iconst 3, 1) := dGR_34_c_1104.2.2.1
theorem dX12_mark_5 : decode cX12_mark 5 = .ok (.if_icmp .ne 9, 3) := dGR_34_c_1104.2.2.2.1
theorem dX12_mark_8 : decode cX12_mark 8 = .ok (.aload_n 0, 1) := dGR_34_c_1104.2.2.2.2.1
theorem dX12_mark_9 : decode cX12_mark 9 = .ok (.iconst 4, 1) := dGR_34_c_1104.2.2.2.2.2.1
theorem dX12_mark_10 : decode cX12_mark 10 = .ok (.invokevirtual 123, 3) := dGR_34_c_1104.2.2.2.2.2.2.1
theorem dX12_mark_13 : decode cX12_mark 13 = .ok (.ireturn, 1) := dGR_34_c_1104.2.2.2.2.2.2.2.1
theorem dX12_mark_14 : decode cX12_mark 14 = .ok (.aload_n 0, 1) := dGR_34_c_1104.2.2.2.2.2.2.2.2.1
theorem dX12_mark_15 : decode cX12_mark 15 = .ok (.dup, 1) := dGR_34_c_1104.2.2.2.2.2.2.2.2.2.1
theorem dX12_mark_16 : decode cX12_mark 16 = .ok (.getfield 535, 3) := dGR_34_c_1104.2.2.2.2.2.2.2.2.2.2.1
theorem dX12_mark_19 : decode cX12_mark 19 = .ok (.iconst 1, 1) := dGR_34_c_1104.2.2.2.2.2.2.2.2.2.2.2
set_option maxRecDepth 100000 in
theorem dGR_34_c_1105 : (decode cX12_mark 20 = .ok (.iadd, 1)) ∧ (decode cX12_mark 21 = .ok (.putfield 535, 3)) ∧ (decode cX12_mark 24 = .ok (.aload_n 0, 1)) ∧ (decode cX12_mark 25 = .ok (.iconst 0, 1)) ∧ (decode cX12_mark 26 = .ok (.aload_n 0, 1)) ∧ (decode cX12_mark 27 = .ok (.getfield 535, 3)) ∧ (decode cX12_mark 30 = .ok (.invokevirtual 538, 3)) ∧ (decode cX12_mark 33 = .ok (.aload_n 0, 1)) ∧ (decode cX12_mark 34 = .ok (.aload_n 0, 1)) ∧ (decode cX12_mark 35 = .ok (.getfield 535, 3)) ∧ (decode cX12_mark 38 = .ok (.invokevirtual 127, 3)) ∧ (decode cX12_mark 41 = .ok (.ireturn, 1)) := by decide +kernel
theorem dX12_mark_20 : decode cX12_mark 20 = .ok (.iadd, 1) := dGR_34_c_1105.1
theorem dX12_mark_21 : decode cX12_mark 21 = .ok (.putfield 535, 3) := dGR_34_c_1105.2.1
theorem dX12_mark_24 : decode cX12_mark 24 = .ok (.aload_n 0, 1) := dGR_34_c_1105.2.2.1
theorem dX12_mark_25 : decode cX12_mark 25 = .ok (.iconst 0, 1) := dGR_34_c_1105.2.2.2.1
theorem dX12_mark_26 : decode cX12_mark 26 = .ok (.aload_n 0, 1) := dGR_34_c_1105.2.2.2.2.1
theorem dX12_mark_27 : decode cX12_mark 27 = .ok (.getfield 535, 3) := dGR_34_c_1105.2.2.2.2.2.1
theorem dX12_mark_30 : decode cX12_mark 30 = .ok (.invokevirtual 538, 3) := dGR_34_c_1105.2.2.2.2.2.2.1
theorem dX12_mark_33 : decode cX12_mark 33 = .ok (.aload_n 0, 1) := dGR_34_c_1105.2.2.2.2.2.2.2.1
theorem dX12_mark_34 : decode cX12_mark 34 = .ok (.aload_n 0, 1) := dGR_34_c_1105.2.2.2.2.2.2.2.2.1
theorem dX12_mark_35 : decode cX12_mark 35 = .ok (.getfield 535, 3) := dGR_34_c_1105.2.2.2.2.2.2.2.2.2.1
theorem dX12_mark_38 : decode cX12_mark 38 = .ok (.invokevirtual 127, 3) := dGR_34_c_1105.2.2.2.2.2.2.2.2.2.2.1
theorem dX12_mark_41 : decode cX12_mark 41 = .ok (.ireturn, 1) := dGR_34_c_1105.2.2.2.2.2.2.2.2.2.2.2
set_option maxRecDepth 100000 in
theorem dGR_34_c_1106 : (decode cX12_undo 0 = .ok (.aload_n 0, 1)) ∧ (decode cX12_undo 1 = .ok (.getfield 535, 3)) ∧ (decode cX12_undo 4 = .ok (.ifCond .ne 10, 3)) ∧ (decode cX12_undo 7 = .ok (.aload_n 0, 1)) ∧ (decode cX12_undo 8 = .ok (.bipush 6, 2)) ∧ (decode cX12_undo 10 = .ok (.invokevirtual 123, 3)) ∧ (decode cX12_undo 13 = .ok (.ireturn, 1)) ∧ (decode cX12_undo 14 = .ok (.aload_n 0, 1)) ∧ (decode cX12_undo 15 = .ok (.aload_n 0, 1)) ∧ (decode cX12_undo 16 = .ok (.getfield 535, 3)) ∧ (decode cX12_undo 19 = .ok (.iconst 0, 1)) ∧ (decode cX12_undo 20 = .ok (.invokevirtual 538, 3)) := by decide +kernel
theorem dX12_undo_0 : decode cX12_undo 0 = .ok (.aload_n 0, 1) := dGR_34_c_1106.1
theorem dX12_undo_1 : decode cX12_undo 1 = .ok (.getfield 535, 3) := dGR_34_c_1106.2.1
theorem dX12_undo_4 : decode cX12_undo 4 = .ok (.ifCond .ne 10, 3) := dGR_34_c_1106.2.2.1
theorem dX12_undo_7 : decode cX12_undo 7 = .ok (.aload_n 0, 1) := dGR_34_c_1106.2.2.2.1
theorem dX12_undo_8 : decode cX12_undo 8 = .ok (.bipush 6, 2) := dGR_34_c_1106.2.2.2.2.1
theorem dX12_undo_10 : decode cX12_undo 10 = .ok (.invokevirtual 123, 3) := dGR_34_c_1106.2.2.2.2.2.1
theorem dX12_undo_13 : decode cX12_undo 13 = .ok (.ireturn, 1) := dGR_34_c_1106.2.2.2.2.2.2.1
theorem dX12_undo_14 : decode cX12_undo 14 = .ok (.aload_n 0, 1) := dGR_34_c_1106.2.2.2.2.2.2.2.1
theorem dX12_undo_15 : decode cX12_undo 15 = .ok (.aload_n 0, 1) := dGR_34_c_1106.2.2.2.2.2.2.2.2.1
theorem dX12_undo_16 : decode cX12_undo 16 = .ok (.getfield 535, 3) := dGR_34_c_1106.2.2.2.2.2.2.2.2.2.1
theorem dX12_undo_19 : decode cX12_undo 19 = .ok (.iconst 0, 1) := dGR_34_c_1106.2.2.2.2.2.2.2.2.2.2.1
theorem dX12_undo_20 : decode cX12_undo 20 = .ok (.invokevirtual 538, 3) := dGR_34_c_1106.2.2.2.2.2.2.2.2.2.2.2
set_option maxRecDepth 100000 in
theorem dGR_34_c_1107 : (decode cX12_undo 23 = .ok (.aload_n 0, 1)) ∧ (decode cX12_undo 24 = .ok (.dup, 1)) ∧ (decode cX12_undo 25 = .ok (.getfield 535, 3)) ∧ (decode cX12_undo 28 = .ok (.iconst 1, 1)) ∧ (decode cX12_undo 29 = .ok (.isub, 1)) ∧ (decode cX12_undo 30 = .ok (.putfield 535, 3)) ∧ (decode cX12_undo 33 = .ok (.aload_n 0, 1)) ∧ (decode cX12_undo 34 = .ok (.aload_n 0, 1)) ∧ (decode cX12_undo 35 = .ok (.getfield 535, 3)) ∧ (decode cX12_undo 38 = .ok (.invokevirtual 127, 3)) ∧ (decode cX12_undo 41 = .ok (.ireturn, 1)) := by decide +kernel
theorem dX12_undo_23 : decode cX12_undo 23 = .ok (.aload_n 0, 1) := dGR_34_c_1107.1
theorem dX12_undo_24 : decode cX12_undo 24 = .ok (.dup, 1) := dGR_34_c_1107.2.1
theorem dX12_undo_25 : decode cX12_undo 25 = .ok (.getfield 535, 3) := dGR_34_c_1107.2.2.1
theorem dX12_undo_28 : decode cX12_undo 28 = .ok (.iconst 1, 1) := dGR_34_c_1107.2.2.2.1
theorem dX12_undo_29 : decode cX12_undo 29 = .ok (.isub, 1) := dGR_34_c_1107.2.2.2.2.1
theorem dX12_undo_30 : decode cX12_undo 30 = .ok (.putfield 535, 3) := dGR_34_c_1107.2.2.2.2.2.1
theorem dX12_undo_33 : decode cX12_undo 33 = .ok (.aload_n 0, 1) := dGR_34_c_1107.2.2.2.2.2.2.1
theorem dX12_undo_34 : decode cX12_undo 34 = .ok (.aload_n 0, 1) := dGR_34_c_1107.2.2.2.2.2.2.2.1
theorem dX12_undo_35 : decode cX12_undo 35 = .ok (.getfield 535, 3) := dGR_34_c_1107.2.2.2.2.2.2.2.2.1
theorem dX12_undo_38 : decode cX12_undo 38 = .ok (.invokevirtual 127, 3) := dGR_34_c_1107.2.2.2.2.2.2.2.2.2.1
theorem dX12_undo_41 : decode cX12_undo 41 = .ok (.ireturn, 1) := dGR_34_c_1107.2.2.2.2.2.2.2.2.2.2
set_option maxRecDepth 100000 in
theorem dGR_34_c_1108 : (decode cX12_isTakenNow 0 = .ok (.aload_n 0, 1)) ∧ (decode cX12_isTakenNow 1 = .ok (.getfield 7, 3)) ∧ (decode cX12_isTakenNow 4 = .ok (.bipush 7, 2)) ∧ (decode cX12_isTakenNow 6 = .ok (.iaload, 1)) ∧ (decode cX12_isTakenNow 7 = .ok (.aload_n 0, 1)) ∧ (decode cX12_isTakenNow 8 = .ok (.aload_n 0, 1)) ∧ (decode cX12_isTakenNow 9 = .ok (.getfield 7, 3)) ∧ (decode cX12_isTakenNow 12 = .ok (.iconst 4, 1)) ∧ (decode cX12_isTakenNow 13 = .ok (.iaload, 1)) ∧ (decode cX12_isTakenNow 14 = .ok (.iconst 3, 1)) ∧ (decode cX12_isTakenNow 15 = .ok (.invokevirtual 288, 3)) ∧ (decode cX12_isTakenNow 18 = .ok (.iand, 1)) := by decide +kernel
theorem dX12_isTakenNow_0 : decode cX12_isTakenNow 0 = .ok (.aload_n 0, 1) := dGR_34_c_1108.1
theorem dX12_isTakenNow_1 : decode cX12_isTakenNow 1 = .ok (.getfield 7, 3) := dGR_34_c_1108.2.1
theorem dX12_isTakenNow_4 : decode cX12_isTakenNow 4 = .ok (.bipush 7, 2) := dGR_34_c_1108.2.2.1
theorem dX12_isTakenNow_6 : decode cX12_isTakenNow 6 = .ok (.iaload, 1) := dGR_34_c_1108.2.2.2.1
theorem dX12_isTakenNow_7 : decode cX12_isTakenNow 7 = .ok (.aload_n 0, 1) := dGR_34_c_1108.2.2.2.2.1
theorem dX12_isTakenNow_8 : decode cX12_isTakenNow 8 = .ok (.aload_n 0, 1) := dGR_34_c_1108.2.2.2.2.2.1
theorem dX12_isTakenNow_9 : decode cX12_isTakenNow 9 = .ok (.getfield 7, 3) := dGR_34_c_1108.2.2.2.2.2.2.1
theorem dX12_isTakenNow_12 : decode cX12_isTakenNow 12 = .ok (.iconst 4, 1) := dGR_34_c_1108.2.2.2.2.2.2.2.1
theorem dX12_isTakenNow_13 : decode cX12_isTakenNow 13 = .ok (.iaload, 1) := dGR_34_c_1108.2.2.2.2.2.2.2.2.1
theorem dX12_isTakenNow_14 : decode cX12_isTakenNow 14 = .ok (.iconst 3, 1) := dGR_34_c_1108.2.2.2.2.2.2.2.2.2.1
theorem dX12_isTakenNow_15 : decode cX12_isTakenNow 15 = .ok (.invokevirtual 288, 3) := dGR_34_c_1108.2.2.2.2.2.2.2.2.2.2.1
theorem dX12_isTakenNow_18 : decode cX12_isTakenNow 18 = .ok (.iand, 1) := dGR_34_c_1108.2.2.2.2.2.2.2.2.2.2.2
set_option maxRecDepth 100000 in
theorem dGR_34_c_1109 : (decode cX12_isTakenNow 19 = .ok (.ifCond .eq 7, 3)) ∧ (decode cX12_isTakenNow 22 = .ok (.iconst 1, 1)) ∧ (decode cX12_isTakenNow 23 = .ok (.goto 4, 3)) ∧ (decode cX12_isTakenNow 26 = .ok (.iconst 0, 1)) ∧ (decode cX12_isTakenNow 27 = .ok (.ireturn, 1)) := by decide +kernel
theorem dX12_isTakenNow_19 : decode cX12_isTakenNow 19 = .ok (.ifCond .eq 7, 3) := dGR_34_c_1109.1
theorem dX12_isTakenNow_22 : decode cX12_isTakenNow 22 = .ok (.iconst 1, 1) := dGR_34_c_1109.2.1
theorem dX12_isTakenNow_23 : decode cX12_isTakenNow 23 = .ok (.goto 4, 3) := dGR_34_c_1109.2.2.1
theorem dX12_isTakenNow_26 : decode cX12_isTakenNow 26 = .ok (.iconst 0, 1) := dGR_34_c_1109.2.2.2.1
theorem dX12_isTakenNow_27 : decode cX12_isTakenNow 27 = .ok (.ireturn, 1) := dGR_34_c_1109.2.2.2.2
set_option maxRecDepth 100000 in
theorem dGR_34_c_1110 : (decode cX12_watch 0 = .ok (.aload_n 0, 1)) ∧ (decode cX12_watch 1 = .ok (.iload_n 1, 1)) ∧ (decode cX12_watch 2 = .ok (.invokevirtual 282, 3)) ∧ (decode cX12_watch 5 = .ok (.ifCond .ne 9, 3)) ∧ (decode cX12_watch 8 = .ok (.aload_n 0, 1)) ∧ (decode cX12_watch 9 = .ok (.iconst 1, 1)) ∧ (decode cX12_watch 10 = .ok (.invokevirtual 123, 3)) ∧ (decode cX12_watch 13 = .ok (.ireturn, 1)) ∧ (decode cX12_watch 14 = .ok (.aload_n 0, 1)) ∧ (decode cX12_watch 15 = .ok (.getfield 7, 3)) ∧ (decode cX12_watch 18 = .ok (.iconst 4, 1)) ∧ (decode cX12_watch 19 = .ok (.iload_n 1, 1)) := by decide +kernel
theorem dX12_watch_0 : decode cX12_watch 0 = .ok (.aload_n 0, 1) := dGR_34_c_1110.1
theorem dX12_watch_1 : decode cX12_watch 1 = .ok (.iload_n 1, 1) := dGR_34_c_1110.2.1
theorem dX12_watch_2 : decode cX12_watch 2 = .ok (.invokevirtual 282, 3) := dGR_34_c_1110.2.2.1
theorem dX12_watch_5 : decode cX12_watch 5 = .ok (.ifCond .ne 9, 3) := dGR_34_c_1110.2.2.2.1
theorem dX12_watch_8 : decode cX12_watch 8 = .ok (.aload_n 0, 1) := dGR_34_c_1110.2.2.2.2.1
theorem dX12_watch_9 : decode cX12_watch 9 = .ok (.iconst 1, 1) := dGR_34_c_1110.2.2.2.2.2.1
theorem dX12_watch_10 : decode cX12_watch 10 = .ok (.invokevirtual 123, 3) := dGR_34_c_1110.2.2.2.2.2.2.1
theorem dX12_watch_13 : decode cX12_watch 13 = .ok (.ireturn, 1) := dGR_34_c_1110.2.2.2.2.2.2.2.1
theorem dX12_watch_14 : decode cX12_watch 14 = .ok (.aload_n 0, 1) := dGR_34_c_1110.2.2.2.2.2.2.2.2.1
theorem dX12_watch_15 : decode cX12_watch 15 = .ok (.getfield 7, 3) := dGR_34_c_1110.2.2.2.2.2.2.2.2.2.1
theorem dX12_watch_18 : decode cX12_watch 18 = .ok (.iconst 4, 1) := dGR_34_c_1110.2.2.2.2.2.2.2.2.2.2.1
theorem dX12_watch_19 : decode cX12_watch 19 = .ok (.iload_n 1, 1) := dGR_34_c_1110.2.2.2.2.2.2.2.2.2.2.2
set_option maxRecDepth 100000 in
theorem dGR_34_c_1111 : (decode cX12_watch 20 = .ok (.iastore, 1)) ∧ (decode cX12_watch 21 = .ok (.aload_n 0, 1)) ∧ (decode cX12_watch 22 = .ok (.getfield 7, 3)) ∧ (decode cX12_watch 25 = .ok (.iconst 5, 1)) ∧ (decode cX12_watch 26 = .ok (.iconst 0, 1)) ∧ (decode cX12_watch 27 = .ok (.iastore, 1)) ∧ (decode cX12_watch 28 = .ok (.aload_n 0, 1)) ∧ (decode cX12_watch 29 = .ok (.getfield 7, 3)) ∧ (decode cX12_watch 32 = .ok (.bipush 6, 2)) ∧ (decode cX12_watch 34 = .ok (.iconst 0, 1)) ∧ (decode cX12_watch 35 = .ok (.iastore, 1)) ∧ (decode cX12_watch 36 = .ok (.aload_n 0, 1)) := by decide +kernel
theorem dX12_watch_20 : decode cX12_watch 20 = .ok (.iastore, 1) := dGR_34_c_1111.1
theorem dX12_watch_21 : decode cX12_watch 21 = .ok (.aload_n 0, 1) := dGR_34_c_1111.2.1
theorem dX12_watch_22 : decode cX12_watch 22 = .ok (.getfield 7, 3) := dGR_34_c_1111.2.2.1
theorem dX12_watch_25 : decode cX12_watch 25 = .ok (.iconst 5, 1) := dGR_34_c_1111.2.2.2.1
theorem dX12_watch_26 : decode cX12_watch 26 = .ok (.iconst 0, 1) := dGR_34_c_1111.2.2.2.2.1
theorem dX12_watch_27 : decode cX12_watch 27 = .ok (.iastore, 1) := dGR_34_c_1111.2.2.2.2.2.1
theorem dX12_watch_28 : decode cX12_watch 28 = .ok (.aload_n 0, 1) := dGR_34_c_1111.2.2.2.2.2.2.1
theorem dX12_watch_29 : decode cX12_watch 29 = .ok (.getfield 7, 3) := dGR_34_c_1111.2.2.2.2.2.2.2.1
theorem dX12_watch_32 : decode cX12_watch 32 = .ok (.bipush 6, 2) := dGR_34_c_1111.2.2.2.2.2.2.2.2.1
theorem dX12_watch_34 : decode cX12_watch 34 = .ok (.iconst 0, 1) := dGR_34_c_1111.2.2.2.2.2.2.2.2.2.1
theorem dX12_watch_35 : decode cX12_watch 35 = .ok (.iastore, 1) := dGR_34_c_1111.2.2.2.2.2.2.2.2.2.2.1
theorem dX12_watch_36 : decode cX12_watch 36 = .ok (.aload_n 0, 1) := dGR_34_c_1111.2.2.2.2.2.2.2.2.2.2.2
set_option maxRecDepth 100000 in
theorem dGR_34_c_1112 : (decode cX12_watch 37 = .ok (.getfield 7, 3)) ∧ (decode cX12_watch 40 = .ok (.bipush 7, 2)) ∧ (decode cX12_watch 42 = .ok (.aload_n 0, 1)) ∧ (decode cX12_watch 43 = .ok (.iload_n 1, 1)) ∧ (decode cX12_watch 44 = .ok (.iconst 2, 1)) ∧ (decode cX12_watch 45 = .ok (.invokevirtual 288, 3)) ∧ (decode cX12_watch 48 = .ok (.iastore, 1)) ∧ (decode cX12_watch 49 = .ok (.aload_n 0, 1)) ∧ (decode cX12_watch 50 = .ok (.getfield 7, 3)) ∧ (decode cX12_watch 53 = .ok (.bipush 8, 2)) ∧ (decode cX12_watch 55 = .ok (.aload_n 0, 1)) ∧ (decode cX12_watch 56 = .ok (.iload_n 1, 1)) := by decide +kernel
theorem dX12_watch_37 : decode cX12_watch 37 = .ok (.getfield 7, 3) := dGR_34_c_1112.1
theorem dX12_watch_40 : decode cX12_watch 40 = .ok (.bipush 7, 2) := dGR_34_c_1112.2.1
theorem dX12_watch_42 : decode cX12_watch 42 = .ok (.aload_n 0, 1) := dGR_34_c_1112.2.2.1
theorem dX12_watch_43 : decode cX12_watch 43 = .ok (.iload_n 1, 1) := dGR_34_c_1112.2.2.2.1
theorem dX12_watch_44 : decode cX12_watch 44 = .ok (.iconst 2, 1) := dGR_34_c_1112.2.2.2.2.1
theorem dX12_watch_45 : decode cX12_watch 45 = .ok (.invokevirtual 288, 3) := dGR_34_c_1112.2.2.2.2.2.1
theorem dX12_watch_48 : decode cX12_watch 48 = .ok (.iastore, 1) := dGR_34_c_1112.2.2.2.2.2.2.1
theorem dX12_watch_49 : decode cX12_watch 49 = .ok (.aload_n 0, 1) := dGR_34_c_1112.2.2.2.2.2.2.2.1
theorem dX12_watch_50 : decode cX12_watch 50 = .ok (.getfield 7, 3) := dGR_34_c_1112.2.2.2.2.2.2.2.2.1
theorem dX12_watch_53 : decode cX12_watch 53 = .ok (.bipush 8, 2) := dGR_34_c_1112.2.2.2.2.2.2.2.2.2.1
theorem dX12_watch_55 : decode cX12_watch 55 = .ok (.aload_n 0, 1) := dGR_34_c_1112.2.2.2.2.2.2.2.2.2.2.1
theorem dX12_watch_56 : decode cX12_watch 56 = .ok (.iload_n 1, 1) := dGR_34_c_1112.2.2.2.2.2.2.2.2.2.2.2
set_option maxRecDepth 100000 in
theorem dGR_34_c_1113 : (decode cX12_watch 57 = .ok (.invokevirtual 329, 3)) ∧ (decode cX12_watch 60 = .ok (.iastore, 1)) ∧ (decode cX12_watch 61 = .ok (.aload_n 0, 1)) ∧ (decode cX12_watch 62 = .ok (.aload_n 0, 1)) ∧ (decode cX12_watch 63 = .ok (.invokevirtual 522, 3)) ∧ (decode cX12_watch 66 = .ok (.invokevirtual 127, 3)) ∧ (decode cX12_watch 69 = .ok (.ireturn, 1)) := by decide +kernel
theorem dX12_watch_57 : decode cX12_watch 57 = .ok (.invokevirtual 329, 3) := dGR_34_c_1113.1
theorem dX12_watch_60 : decode cX12_watch 60 = .ok (.iastore, 1) := dGR_34_c_1113.2.1
theorem dX12_watch_61 : decode cX12_watch 61 = .ok (.aload_n 0, 1) := dGR_34_c_1113.2.2.1
theorem dX12_watch_62 : decode cX12_watch 62 = .ok (.aload_n 0, 1) := dGR_34_c_1113.2.2.2.1
theorem dX12_watch_63 : decode cX12_watch 63 = .ok (.invokevirtual 522, 3) := dGR_34_c_1113.2.2.2.2.1
theorem dX12_watch_66 : decode cX12_watch 66 = .ok (.invokevirtual 127, 3) := dGR_34_c_1113.2.2.2.2.2.1
theorem dX12_watch_69 : decode cX12_watch 69 = .ok (.ireturn, 1) := dGR_34_c_1113.2.2.2.2.2.2
set_option maxRecDepth 100000 in
theorem dGR_34_c_1114 : (decode cX12_comesBack 0 = .ok (.aload_n 0, 1)) ∧ (decode cX12_comesBack 1 = .ok (.getfield 7, 3)) ∧ (decode cX12_comesBack 4 = .ok (.bipush 6, 2)) ∧ (decode cX12_comesBack 6 = .ok (.iaload, 1)) ∧ (decode cX12_comesBack 7 = .ok (.ifCond .ne 54, 3)) ∧ (decode cX12_comesBack 10 = .ok (.aload_n 0, 1)) ∧ (decode cX12_comesBack 11 = .ok (.getfield 7, 3)) ∧ (decode cX12_comesBack 14 = .ok (.bipush 7, 2)) ∧ (decode cX12_comesBack 16 = .ok (.aload_n 0, 1)) ∧ (decode cX12_comesBack 17 = .ok (.getfield 7, 3)) ∧ (decode cX12_comesBack 20 = .ok (.bipush 7, 2)) ∧ (decode cX12_comesBack 22 = .ok (.iaload, 1)) := by decide +kernel
theorem dX12_comesBack_0 : decode cX12_comesBack 0 = .ok (.aload_n 0, 1) := dGR_34_c_1114.1
theorem dX12_comesBack_1 : decode cX12_comesBack 1 = .ok (.getfield 7, 3) := dGR_34_c_1114.2.1
theorem dX12_comesBack_4 : decode cX12_comesBack 4 = .ok (.bipush 6, 2) := dGR_34_c_1114.2.2.1
theorem dX12_comesBack_6 : decode cX12_comesBack 6 = .ok (.iaload, 1) := dGR_34_c_1114.2.2.2.1
theorem dX12_comesBack_7 : decode cX12_comesBack 7 = .ok (.ifCond .ne 54, 3) := dGR_34_c_1114.2.2.2.2.1
theorem dX12_comesBack_10 : decode cX12_comesBack 10 = .ok (.aload_n 0, 1) := dGR_34_c_1114.2.2.2.2.2.1
theorem dX12_comesBack_11 : decode cX12_comesBack 11 = .ok (.getfield 7, 3) := dGR_34_c_1114.2.2.2.2.2.2.1
theorem dX12_comesBack_14 : decode cX12_comesBack 14 = .ok (.bipush 7, 2) := dGR_34_c_1114.2.2.2.2.2.2.2.1
theorem dX12_comesBack_16 : decode cX12_comesBack 16 = .ok (.aload_n 0, 1) := dGR_34_c_1114.2.2.2.2.2.2.2.2.1
theorem dX12_comesBack_17 : decode cX12_comesBack 17 = .ok (.getfield 7, 3) := dGR_34_c_1114.2.2.2.2.2.2.2.2.2.1
theorem dX12_comesBack_20 : decode cX12_comesBack 20 = .ok (.bipush 7, 2) := dGR_34_c_1114.2.2.2.2.2.2.2.2.2.2.1
theorem dX12_comesBack_22 : decode cX12_comesBack 22 = .ok (.iaload, 1) := dGR_34_c_1114.2.2.2.2.2.2.2.2.2.2.2
set_option maxRecDepth 100000 in
theorem dGR_34_c_1115 : (decode cX12_comesBack 23 = .ok (.aload_n 0, 1)) ∧ (decode cX12_comesBack 24 = .ok (.iload_n 1, 1)) ∧ (decode cX12_comesBack 25 = .ok (.iload_n 2, 1)) ∧ (decode cX12_comesBack 26 = .ok (.bipush 8, 2)) ∧ (decode cX12_comesBack 28 = .ok (.invokevirtual 323, 3)) ∧ (decode cX12_comesBack 31 = .ok (.invokestatic 332, 3)) ∧ (decode cX12_comesBack 34 = .ok (.iastore, 1)) ∧ (decode cX12_comesBack 35 = .ok (.aload_n 0, 1)) ∧ (decode cX12_comesBack 36 = .ok (.getfield 7, 3)) ∧ (decode cX12_comesBack 39 = .ok (.bipush 8, 2)) ∧ (decode cX12_comesBack 41 = .ok (.aload_n 0, 1)) ∧ (decode cX12_comesBack 42 = .ok (.getfield 7, 3)) := by decide +kernel
theorem dX12_comesBack_23 : decode cX12_comesBack 23 = .ok (.aload_n 0, 1) := dGR_34_c_1115.1
theorem dX12_comesBack_24 : decode cX12_comesBack 24 = .ok (.iload_n 1, 1) := dGR_34_c_1115.2.1
theorem dX12_comesBack_25 : decode cX12_comesBack 25 = .ok (.iload_n 2, 1) := dGR_34_c_1115.2.2.1
theorem dX12_comesBack_26 : decode cX12_comesBack 26 = .ok (.bipush 8, 2) := dGR_34_c_1115.2.2.2.1
theorem dX12_comesBack_28 : decode cX12_comesBack 28 = .ok (.invokevirtual 323, 3) := dGR_34_c_1115.2.2.2.2.1
theorem dX12_comesBack_31 : decode cX12_comesBack 31 = .ok (.invokestatic 332, 3) := dGR_34_c_1115.2.2.2.2.2.1
theorem dX12_comesBack_34 : decode cX12_comesBack 34 = .ok (.iastore, 1) := dGR_34_c_1115.2.2.2.2.2.2.1
theorem dX12_comesBack_35 : decode cX12_comesBack 35 = .ok (.aload_n 0, 1) := dGR_34_c_1115.2.2.2.2.2.2.2.1
theorem dX12_comesBack_36 : decode cX12_comesBack 36 = .ok (.getfield 7, 3) := dGR_34_c_1115.2.2.2.2.2.2.2.2.1
theorem dX12_comesBack_39 : decode cX12_comesBack 39 = .ok (.bipush 8, 2) := dGR_34_c_1115.2.2.2.2.2.2.2.2.2.1
theorem dX12_comesBack_41 : decode cX12_comesBack 41 = .ok (.aload_n 0, 1) := dGR_34_c_1115.2.2.2.2.2.2.2.2.2.2.1
theorem dX12_comesBack_42 : decode cX12_comesBack 42 = .ok (.getfield 7, 3) := dGR_34_c_1115.2.2.2.2.2.2.2.2.2.2.2
set_option maxRecDepth 100000 in
theorem dGR_34_c_1116 : (decode cX12_comesBack 45 = .ok (.bipush 8, 2)) ∧ (decode cX12_comesBack 47 = .ok (.iaload, 1)) ∧ (decode cX12_comesBack 48 = .ok (.aload_n 0, 1)) ∧ (decode cX12_comesBack 49 = .ok (.iload_n 1, 1)) ∧ (decode cX12_comesBack 50 = .ok (.iload_n 2, 1)) ∧ (decode cX12_comesBack 51 = .ok (.bipush 8, 2)) ∧ (decode cX12_comesBack 53 = .ok (.invokevirtual 323, 3)) ∧ (decode cX12_comesBack 56 = .ok (.invokestatic 326, 3)) ∧ (decode cX12_comesBack 59 = .ok (.iastore, 1)) ∧ (decode cX12_comesBack 60 = .ok (.return_, 1)) ∧ (decode cX12_comesBack 61 = .ok (.aload_n 0, 1)) ∧ (decode cX12_comesBack 62 = .ok (.getfield 7, 3)) := by decide +kernel
theorem dX12_comesBack_45 : decode cX12_comesBack 45 = .ok (.bipush 8, 2) := dGR_34_c_1116.1
theorem dX12_comesBack_47 : decode cX12_comesBack 47 = .ok (.iaload, 1) := dGR_34_c_1116.2.1
theorem dX12_comesBack_48 : decode cX12_comesBack 48 = .ok (.aload_n 0, 1) := dGR_34_c_1116.2.2.1
theorem dX12_comesBack_49 : decode cX12_comesBack 49 = .ok (.iload_n 1, 1) := dGR_34_c_1116.2.2.2.1
theorem dX12_comesBack_50 : decode cX12_comesBack 50 = .ok (.iload_n 2, 1) := dGR_34_c_1116.2.2.2.2.1
theorem dX12_comesBack_51 : decode cX12_comesBack 51 = .ok (.bipush 8, 2) := dGR_34_c_1116.2.2.2.2.2.1
theorem dX12_comesBack_53 : decode cX12_comesBack 53 = .ok (.invokevirtual 323, 3) := dGR_34_c_1116.2.2.2.2.2.2.1
theorem dX12_comesBack_56 : decode cX12_comesBack 56 = .ok (.invokestatic 326, 3) := dGR_34_c_1116.2.2.2.2.2.2.2.1
theorem dX12_comesBack_59 : decode cX12_comesBack 59 = .ok (.iastore, 1) := dGR_34_c_1116.2.2.2.2.2.2.2.2.1
theorem dX12_comesBack_60 : decode cX12_comesBack 60 = .ok (.return_, 1) := dGR_34_c_1116.2.2.2.2.2.2.2.2.2.1
theorem dX12_comesBack_61 : decode cX12_comesBack 61 = .ok (.aload_n 0, 1) := dGR_34_c_1116.2.2.2.2.2.2.2.2.2.2.1
theorem dX12_comesBack_62 : decode cX12_comesBack 62 = .ok (.getfield 7, 3) := dGR_34_c_1116.2.2.2.2.2.2.2.2.2.2.2
set_option maxRecDepth 100000 in
theorem dGR_34_c_1117 : (decode cX12_comesBack 65 = .ok (.bipush 6, 2)) ∧ (decode cX12_comesBack 67 = .ok (.dup2, 1)) ∧ (decode cX12_comesBack 68 = .ok (.iaload, 1)) ∧ (decode cX12_comesBack 69 = .ok (.iconst 1, 1)) ∧ (decode cX12_comesBack 70 = .ok (.isub, 1)) ∧ (decode cX12_comesBack 71 = .ok (.iastore, 1)) ∧ (decode cX12_comesBack 72 = .ok (.aload_n 0, 1)) ∧ (decode cX12_comesBack 73 = .ok (.aload_n 0, 1)) ∧ (decode cX12_comesBack 74 = .ok (.getfield 7, 3)) ∧ (decode cX12_comesBack 77 = .ok (.bipush 6, 2)) ∧ (decode cX12_comesBack 79 = .ok (.iaload, 1)) ∧ (decode cX12_comesBack 80 = .ok (.invokevirtual 525, 3)) := by decide +kernel
theorem dX12_comesBack_65 : decode cX12_comesBack 65 = .ok (.bipush 6, 2) := dGR_34_c_1117.1
theorem dX12_comesBack_67 : decode cX12_comesBack 67 = .ok (.dup2, 1) := dGR_34_c_1117.2.1
theorem dX12_comesBack_68 : decode cX12_comesBack 68 = .ok (.iaload, 1) := dGR_34_c_1117.2.2.1
theorem dX12_comesBack_69 : decode cX12_comesBack 69 = .ok (.iconst 1, 1) := dGR_34_c_1117.2.2.2.1
theorem dX12_comesBack_70 : decode cX12_comesBack 70 = .ok (.isub, 1) := dGR_34_c_1117.2.2.2.2.1
theorem dX12_comesBack_71 : decode cX12_comesBack 71 = .ok (.iastore, 1) := dGR_34_c_1117.2.2.2.2.2.1
theorem dX12_comesBack_72 : decode cX12_comesBack 72 = .ok (.aload_n 0, 1) := dGR_34_c_1117.2.2.2.2.2.2.1
theorem dX12_comesBack_73 : decode cX12_comesBack 73 = .ok (.aload_n 0, 1) := dGR_34_c_1117.2.2.2.2.2.2.2.1
theorem dX12_comesBack_74 : decode cX12_comesBack 74 = .ok (.getfield 7, 3) := dGR_34_c_1117.2.2.2.2.2.2.2.2.1
theorem dX12_comesBack_77 : decode cX12_comesBack 77 = .ok (.bipush 6, 2) := dGR_34_c_1117.2.2.2.2.2.2.2.2.2.1
theorem dX12_comesBack_79 : decode cX12_comesBack 79 = .ok (.iaload, 1) := dGR_34_c_1117.2.2.2.2.2.2.2.2.2.2.1
theorem dX12_comesBack_80 : decode cX12_comesBack 80 = .ok (.invokevirtual 525, 3) := dGR_34_c_1117.2.2.2.2.2.2.2.2.2.2.2
set_option maxRecDepth 100000 in
theorem dGR_34_c_1118 : (decode cX12_comesBack 83 = .ok (.istore_n 3, 1)) ∧ (decode cX12_comesBack 84 = .ok (.aload_n 0, 1)) ∧ (decode cX12_comesBack 85 = .ok (.iload_n 1, 1)) ∧ (decode cX12_comesBack 86 = .ok (.aload_n 0, 1)) ∧ (decode cX12_comesBack 87 = .ok (.getfield 7, 3)) ∧ (decode cX12_comesBack 90 = .ok (.bipush 8, 2)) ∧ (decode cX12_comesBack 92 = .ok (.iaload, 1)) ∧ (decode cX12_comesBack 93 = .ok (.aload_n 0, 1)) ∧ (decode cX12_comesBack 94 = .ok (.getfield 7, 3)) ∧ (decode cX12_comesBack 97 = .ok (.iload_n 3, 1)) ∧ (decode cX12_comesBack 98 = .ok (.iconst 2, 1)) ∧ (decode cX12_comesBack 99 = .ok (.iadd, 1)) := by decide +kernel
theorem dX12_comesBack_83 : decode cX12_comesBack 83 = .ok (.istore_n 3, 1) := dGR_34_c_1118.1
theorem dX12_comesBack_84 : decode cX12_comesBack 84 = .ok (.aload_n 0, 1) := dGR_34_c_1118.2.1
theorem dX12_comesBack_85 : decode cX12_comesBack 85 = .ok (.iload_n 1, 1) := dGR_34_c_1118.2.2.1
theorem dX12_comesBack_86 : decode cX12_comesBack 86 = .ok (.aload_n 0, 1) := dGR_34_c_1118.2.2.2.1
theorem dX12_comesBack_87 : decode cX12_comesBack 87 = .ok (.getfield 7, 3) := dGR_34_c_1118.2.2.2.2.1
theorem dX12_comesBack_90 : decode cX12_comesBack 90 = .ok (.bipush 8, 2) := dGR_34_c_1118.2.2.2.2.2.1
theorem dX12_comesBack_92 : decode cX12_comesBack 92 = .ok (.iaload, 1) := dGR_34_c_1118.2.2.2.2.2.2.1
theorem dX12_comesBack_93 : decode cX12_comesBack 93 = .ok (.aload_n 0, 1) := dGR_34_c_1118.2.2.2.2.2.2.2.1
theorem dX12_comesBack_94 : decode cX12_comesBack 94 = .ok (.getfield 7, 3) := dGR_34_c_1118.2.2.2.2.2.2.2.2.1
theorem dX12_comesBack_97 : decode cX12_comesBack 97 = .ok (.iload_n 3, 1) := dGR_34_c_1118.2.2.2.2.2.2.2.2.2.1
theorem dX12_comesBack_98 : decode cX12_comesBack 98 = .ok (.iconst 2, 1) := dGR_34_c_1118.2.2.2.2.2.2.2.2.2.2.1
theorem dX12_comesBack_99 : decode cX12_comesBack 99 = .ok (.iadd, 1) := dGR_34_c_1118.2.2.2.2.2.2.2.2.2.2.2
set_option maxRecDepth 100000 in
theorem dGR_34_c_1119 : (decode cX12_comesBack 100 = .ok (.iaload, 1)) ∧ (decode cX12_comesBack 101 = .ok (.iload_n 2, 1)) ∧ (decode cX12_comesBack 102 = .ok (.invokevirtual 335, 3)) ∧ (decode cX12_comesBack 105 = .ok (.istore 4, 2)) ∧ (decode cX12_comesBack 107 = .ok (.aload_n 0, 1)) ∧ (decode cX12_comesBack 108 = .ok (.getfield 7, 3)) ∧ (decode cX12_comesBack 111 = .ok (.bipush 7, 2)) ∧ (decode cX12_comesBack 113 = .ok (.aload_n 0, 1)) ∧ (decode cX12_comesBack 114 = .ok (.getfield 7, 3)) ∧ (decode cX12_comesBack 117 = .ok (.iload_n 3, 1)) ∧ (decode cX12_comesBack 118 = .ok (.iaload, 1)) ∧ (decode cX12_comesBack 119 = .ok (.iload 4, 2)) := by decide +kernel
theorem dX12_comesBack_100 : decode cX12_comesBack 100 = .ok (.iaload, 1) := dGR_34_c_1119.1
theorem dX12_comesBack_101 : decode cX12_comesBack 101 = .ok (.iload_n 2, 1) := dGR_34_c_1119.2.1
theorem dX12_comesBack_102 : decode cX12_comesBack 102 = .ok (.invokevirtual 335, 3) := dGR_34_c_1119.2.2.1
theorem dX12_comesBack_105 : decode cX12_comesBack 105 = .ok (.istore 4, 2) := dGR_34_c_1119.2.2.2.1
theorem dX12_comesBack_107 : decode cX12_comesBack 107 = .ok (.aload_n 0, 1) := dGR_34_c_1119.2.2.2.2.1
theorem dX12_comesBack_108 : decode cX12_comesBack 108 = .ok (.getfield 7, 3) := dGR_34_c_1119.2.2.2.2.2.1
theorem dX12_comesBack_111 : decode cX12_comesBack 111 = .ok (.bipush 7, 2) := dGR_34_c_1119.2.2.2.2.2.2.1
theorem dX12_comesBack_113 : decode cX12_comesBack 113 = .ok (.aload_n 0, 1) := dGR_34_c_1119.2.2.2.2.2.2.2.1
theorem dX12_comesBack_114 : decode cX12_comesBack 114 = .ok (.getfield 7, 3) := dGR_34_c_1119.2.2.2.2.2.2.2.2.1
theorem dX12_comesBack_117 : decode cX12_comesBack 117 = .ok (.iload_n 3, 1) := dGR_34_c_1119.2.2.2.2.2.2.2.2.2.1
theorem dX12_comesBack_118 : decode cX12_comesBack 118 = .ok (.iaload, 1) := dGR_34_c_1119.2.2.2.2.2.2.2.2.2.2.1
theorem dX12_comesBack_119 : decode cX12_comesBack 119 = .ok (.iload 4, 2) := dGR_34_c_1119.2.2.2.2.2.2.2.2.2.2.2
set_option maxRecDepth 100000 in
theorem dGR_34_c_1120 : (decode cX12_comesBack 121 = .ok (.invokestatic 332, 3)) ∧ (decode cX12_comesBack 124 = .ok (.iastore, 1)) ∧ (decode cX12_comesBack 125 = .ok (.aload_n 0, 1)) ∧ (decode cX12_comesBack 126 = .ok (.getfield 7, 3)) ∧ (decode cX12_comesBack 129 = .ok (.bipush 8, 2)) ∧ (decode cX12_comesBack 131 = .ok (.aload_n 0, 1)) ∧ (decode cX12_comesBack 132 = .ok (.getfield 7, 3)) ∧ (decode cX12_comesBack 135 = .ok (.iload_n 3, 1)) ∧ (decode cX12_comesBack 136 = .ok (.iconst 1, 1)) ∧ (decode cX12_comesBack 137 = .ok (.iadd, 1)) ∧ (decode cX12_comesBack 138 = .ok (.iaload, 1)) ∧ (decode cX12_comesBack 139 = .ok (.iload 4, 2)) := by decide +kernel
theorem dX12_comesBack_121 : decode cX12_comesBack 121 = .ok (.invokestatic 332, 3) := dGR_34_c_1120.1
theorem dX12_comesBack_124 : decode cX12_comesBack 124 = .ok (.iastore, 1) := dGR_34_c_1120.2.1
theorem dX12_comesBack_125 : decode cX12_comesBack 125 = .ok (.aload_n 0, 1) := dGR_34_c_1120.2.2.1
theorem dX12_comesBack_126 : decode cX12_comesBack 126 = .ok (.getfield 7, 3) := dGR_34_c_1120.2.2.2.1
theorem dX12_comesBack_129 : decode cX12_comesBack 129 = .ok (.bipush 8, 2) := dGR_34_c_1120.2.2.2.2.1
theorem dX12_comesBack_131 : decode cX12_comesBack 131 = .ok (.aload_n 0, 1) := dGR_34_c_1120.2.2.2.2.2.1
theorem dX12_comesBack_132 : decode cX12_comesBack 132 = .ok (.getfield 7, 3) := dGR_34_c_1120.2.2.2.2.2.2.1
theorem dX12_comesBack_135 : decode cX12_comesBack 135 = .ok (.iload_n 3, 1) := dGR_34_c_1120.2.2.2.2.2.2.2.1
theorem dX12_comesBack_136 : decode cX12_comesBack 136 = .ok (.iconst 1, 1) := dGR_34_c_1120.2.2.2.2.2.2.2.2.1
theorem dX12_comesBack_137 : decode cX12_comesBack 137 = .ok (.iadd, 1) := dGR_34_c_1120.2.2.2.2.2.2.2.2.2.1
theorem dX12_comesBack_138 : decode cX12_comesBack 138 = .ok (.iaload, 1) := dGR_34_c_1120.2.2.2.2.2.2.2.2.2.2.1
theorem dX12_comesBack_139 : decode cX12_comesBack 139 = .ok (.iload 4, 2) := dGR_34_c_1120.2.2.2.2.2.2.2.2.2.2.2
set_option maxRecDepth 100000 in
theorem dGR_34_c_1121 : (decode cX12_comesBack 141 = .ok (.invokestatic 326, 3)) ∧ (decode cX12_comesBack 144 = .ok (.iastore, 1)) ∧ (decode cX12_comesBack 145 = .ok (.return_, 1)) := by decide +kernel
theorem dX12_comesBack_141 : decode cX12_comesBack 141 = .ok (.invokestatic 326, 3) := dGR_34_c_1121.1
theorem dX12_comesBack_144 : decode cX12_comesBack 144 = .ok (.iastore, 1) := dGR_34_c_1121.2.1
theorem dX12_comesBack_145 : decode cX12_comesBack 145 = .ok (.return_, 1) := dGR_34_c_1121.2.2
set_option maxHeartbeats 4000000 in
set_option maxRecDepth 100000 in
theorem c_sortOf0E (G : KG) (l : Launch) (M : Mem) (a1 : Int) (a2 : Int) (hI_M : Inv true M) (hpre : -2147483648 ≤ a1 ∧ a1 ≤ 2147483647 ∧ -2147483648 ≤ a2 ∧ a2 ≤ 2147483647 ∧ a1 = 0) : KC true G l yX12_sortOf cX12_sortOf 3 (some .int) (0, 0) [vR G 163, vI a1, vI a2] M (fun A => kQi true G A (fun (r : Int) (N : Mem) => M = N ∧ ((r = 0 ∧ a2 < (M 164 0)) ∨ (r = 1 ∧ a2 ≥ (M 164 0) ∧ a2 < (M 164 0) + (M 164 1)) ∨ (r = 2 ∧ a2 ≥ (M 164 0) + (M 164 1))))) := by
  refine kx_met (lo := [some (vR G 163), some (vI a1), some (vI a2)]) (by decide) (Nat.le_of_ble_eq_true rfl) rfl ?_
  intro X F hQ
  have e_1 : M 164 a1 = M 164 0 := by rw [show a1 = 0 by omega]
  have e_2 : M 164 (a1 + 1) = M 164 1 := by rw [show a1 + 1 = 1 by omega]
  refine kx_iload_n 1 F 2 dX12_sortOf_0 rfl rfl rfl ?_
  refine kx_aload_n 2 F 0 dX12_sortOf_1 rfl rfl rfl ?_
  refine kx_getr 5 F fl_X12_7 kd_163 rfl rfl (j := 0) rfl dX12_sortOf_2 (v := 164) (uq_164 (Inv.r hI_M kd_163 rfl 0 rfl rfl)) rfl ?_
  refine kx_iload_n 6 F 1 dX12_sortOf_5 rfl rfl rfl ?_
  refine kx_iald 7 F kd_164 rfl rfl (by omega) (by decide) dX12_sortOf_6 (v := (M 164 a1)) rfl rfl ?_
  have ha_3 : atlo a1 = 0 ∧ athi a1 = 2 := at_c a1 0 (o := 0) (lo := 0) (hi := 2) (by omega) (by decide) (by decide) (by decide)
  have h_4 := Inv.g hI_M kd_164 rfl a1 (a := 0) (b := 2) ha_3.1 ha_3.2
  refine kx_icmp_ge 10 F 14 dX12_sortOf_7 (by decide) rfl (by omega) (by omega) (fun h_5 => ?_) (fun h_5 => ?_)
  · refine kx_iload_n 15 F 2 dX12_sortOf_14 rfl rfl rfl ?_
    refine kx_aload_n 16 F 0 dX12_sortOf_15 rfl rfl rfl ?_
    refine kx_getr 19 F fl_X12_7 kd_163 rfl rfl (j := 0) rfl dX12_sortOf_16 (v := 164) (uq_164 (Inv.r hI_M kd_163 rfl 0 rfl rfl)) rfl ?_
    refine kx_iload_n 20 F 1 dX12_sortOf_19 rfl rfl rfl ?_
    refine kx_iald 21 F kd_164 rfl rfl (by omega) (by decide) dX12_sortOf_20 (v := (M 164 a1)) rfl rfl ?_
    refine kx_aload_n 22 F 0 dX12_sortOf_21 rfl rfl rfl ?_
    refine kx_getr 25 F fl_X12_7 kd_163 rfl rfl (j := 0) rfl dX12_sortOf_22 (v := 164) (uq_164 (Inv.r hI_M kd_163 rfl 0 rfl rfl)) rfl ?_
    refine kx_iload_n 26 F 1 dX12_sortOf_25 rfl rfl rfl ?_
    refine kx_iconst 27 F dX12_sortOf_26 rfl ?_
    refine kx_iadd 28 F (v := a1 + 1) dX12_sortOf_27 rfl rfl ?_
    refine kx_iald 29 F kd_164 rfl rfl (by omega) (by decide) dX12_sortOf_28 (v := (M 164 (a1 + 1))) rfl rfl ?_
    have ha_6 : atlo (a1 + 1) = 0 ∧ athi (a1 + 1) = 2 := at_c (a1 + 1) 0 (o := 1) (lo := 0) (hi := 2) (by omega) (by decide) (by decide) (by decide)
    have h_7 := Inv.g hI_M kd_164 rfl (a1 + 1) (a := 0) (b := 2) ha_6.1 ha_6.2
    refine kx_iadd 30 F (v := (M 164 a1) + (M 164 (a1 + 1))) dX12_sortOf_29 rfl rfl ?_
    refine kx_icmp_ge 33 F 37 dX12_sortOf_30 (by decide) rfl (by omega) (by omega) (fun h_8 => ?_) (fun h_8 => ?_)
    · refine kx_iconst 38 F dX12_sortOf_37 rfl ?_
      exact kx_iret F hQ ⟨rfl, (Or.inr (Or.inr (by omega)))⟩ dX12_sortOf_38
    · refine kx_iconst 34 F dX12_sortOf_33 rfl ?_
      refine kx_goto 38 F dX12_sortOf_34 (by decide) ?_
      exact kx_iret F hQ ⟨rfl, (Or.inr (Or.inl (by omega)))⟩ dX12_sortOf_38
  · refine kx_iconst 11 F dX12_sortOf_10 rfl ?_
    refine kx_goto 38 F dX12_sortOf_11 (by decide) ?_
    exact kx_iret F hQ ⟨rfl, (Or.inl (by omega))⟩ dX12_sortOf_38
set_option maxHeartbeats 4000000 in
set_option maxRecDepth 100000 in
theorem c_sortNowE (G : KG) (l : Launch) (M : Mem) (a1 : Int) (hI_M : Inv true M) (hpre : -2147483648 ≤ a1 ∧ a1 ≤ 2147483647) : KC true G l yX12_sortNow cX12_sortNow 2 (some .int) (1, 22) [vR G 163, vI a1] M (fun A => kQi true G A (fun (r : Int) (N : Mem) => M = N ∧ ((r = 0 ∧ a1 < (M 164 0)) ∨ (r = 1 ∧ a1 ≥ (M 164 0) ∧ a1 < (M 164 0) + (M 164 1)) ∨ (r = 2 ∧ a1 ≥ (M 164 0) + (M 164 1))))) := by
  refine kx_met (lo := [some (vR G 163), some (vI a1)]) (by decide) (Nat.le_of_ble_eq_true rfl) rfl ?_
  intro X F hQ
  refine kx_aload_n 1 F 0 dX12_sortNow_0 rfl rfl rfl ?_
  refine kx_iconst 2 F dX12_sortNow_1 rfl ?_
  refine kx_iload_n 3 F 1 dX12_sortNow_2 rfl rfl rfl ?_
  refine kx_Vi 6 (ci := 0) F (As := [vI 0, vI a1]) (st := []) vd_X12_247 (c_sortOf0E G l M 0 a1 hI_M (by omega)) kd_163 rfl rfl rfl ⟨by decide, by decide⟩ rfl rfl (Nat.le_of_ble_eq_true rfl) dX12_sortNow_3 rfl ?_
  intro r_1 N_2 q_3
  obtain ⟨rfl, q_3c⟩ := q_3
  rcases q_3c with q_3c | q_3c | q_3c
  · exact kx_iret F hQ ⟨rfl, (Or.inl (by omega))⟩ dX12_sortNow_6
  · exact kx_iret F hQ ⟨rfl, (Or.inr (Or.inl (by omega)))⟩ dX12_sortNow_6
  · exact kx_iret F hQ ⟨rfl, (Or.inr (Or.inr (by omega)))⟩ dX12_sortNow_6
set_option maxRecDepth 100000 in
theorem dGR_34_c_1122 : (decode cX12_see 0 = .ok (.aload_n 0, 1)) ∧ (decode cX12_see 1 = .ok (.getfield 7, 3)) ∧ (decode cX12_see 4 = .ok (.iconst 4, 1)) ∧ (decode cX12_see 5 = .ok (.iaload, 1)) ∧ (decode cX12_see 6 = .ok (.istore_n 2, 1)) ∧ (decode cX12_see 7 = .ok (.aload_n 0, 1)) ∧ (decode cX12_see 8 = .ok (.iload_n 1, 1)) ∧ (decode cX12_see 9 = .ok (.invokevirtual 300, 3)) ∧ (decode cX12_see 12 = .ok (.ifCond .ne 9, 3)) ∧ (decode cX12_see 15 = .ok (.aload_n 0, 1)) ∧ (decode cX12_see 16 = .ok (.iconst 1, 1)) ∧ (decode cX12_see 17 = .ok (.invokevirtual 123, 3)) := by decide +kernel
theorem dX12_see_0 : decode cX12_see 0 = .ok (.aload_n 0, 1) := dGR_34_c_1122.1
theorem dX12_see_1 : decode cX12_see 1 = .ok (.getfield 7, 3) := dGR_34_c_1122.2.1
theorem dX12_see_4 : decode cX12_see 4 = .ok (.iconst 4, 1) := dGR_34_c_1122.2.2.1
theorem dX12_see_5 : decode cX12_see 5 = .ok (.iaload, 1) := dGR_34_c_1122.2.2.2.1
theorem dX12_see_6 : decode cX12_see 6 = .ok (.istore_n 2, 1) := dGR_34_c_1122.2.2.2.2.1
theorem dX12_see_7 : decode cX12_see 7 = .ok (.aload_n 0, 1) := dGR_34_c_1122.2.2.2.2.2.1
theorem dX12_see_8 : decode cX12_see 8 = .ok (.iload_n 1, 1) := dGR_34_c_1122.2.2.2.2.2.2.1
theorem dX12_see_9 : decode cX12_see 9 = .ok (.invokevirtual 300, 3) := dGR_34_c_1122.2.2.2.2.2.2.2.1
theorem dX12_see_12 : decode cX12_see 12 = .ok (.ifCond .ne 9, 3) := dGR_34_c_1122.2.2.2.2.2.2.2.2.1
theorem dX12_see_15 : decode cX12_see 15 = .ok (.aload_n 0, 1) := dGR_34_c_1122.2.2.2.2.2.2.2.2.2.1
theorem dX12_see_16 : decode cX12_see 16 = .ok (.iconst 1, 1) := dGR_34_c_1122.2.2.2.2.2.2.2.2.2.2.1
theorem dX12_see_17 : decode cX12_see 17 = .ok (.invokevirtual 123, 3) := dGR_34_c_1122.2.2.2.2.2.2.2.2.2.2.2
set_option maxRecDepth 100000 in
theorem dGR_34_c_1123 : (decode cX12_see 20 = .ok (.ireturn, 1)) ∧ (decode cX12_see 21 = .ok (.iload_n 2, 1)) ∧ (decode cX12_see 22 = .ok (.iconst (-1), 1)) ∧ (decode cX12_see 23 = .ok (.if_icmp .ne 10, 3)) ∧ (decode cX12_see 26 = .ok (.aload_n 0, 1)) ∧ (decode cX12_see 27 = .ok (.bipush 6, 2)) ∧ (decode cX12_see 29 = .ok (.invokevirtual 123, 3)) ∧ (decode cX12_see 32 = .ok (.ireturn, 1)) ∧ (decode cX12_see 33 = .ok (.aload_n 0, 1)) ∧ (decode cX12_see 34 = .ok (.iload_n 1, 1)) ∧ (decode cX12_see 35 = .ok (.invokevirtual 297, 3)) ∧ (decode cX12_see 38 = .ok (.ifCond .ne 21, 3)) := by decide +kernel
theorem dX12_see_20 : decode cX12_see 20 = .ok (.ireturn, 1) := dGR_34_c_1123.1
theorem dX12_see_21 : decode cX12_see 21 = .ok (.iload_n 2, 1) := dGR_34_c_1123.2.1
theorem dX12_see_22 : decode cX12_see 22 = .ok (.iconst (-1), 1) := dGR_34_c_1123.2.2.1
theorem dX12_see_23 : decode cX12_see 23 = .ok (.if_icmp .ne 10, 3) := dGR_34_c_1123.2.2.2.1
theorem dX12_see_26 : decode cX12_see 26 = .ok (.aload_n 0, 1) := dGR_34_c_1123.2.2.2.2.1
theorem dX12_see_27 : decode cX12_see 27 = .ok (.bipush 6, 2) := dGR_34_c_1123.2.2.2.2.2.1
theorem dX12_see_29 : decode cX12_see 29 = .ok (.invokevirtual 123, 3) := dGR_34_c_1123.2.2.2.2.2.2.1
theorem dX12_see_32 : decode cX12_see 32 = .ok (.ireturn, 1) := dGR_34_c_1123.2.2.2.2.2.2.2.1
theorem dX12_see_33 : decode cX12_see 33 = .ok (.aload_n 0, 1) := dGR_34_c_1123.2.2.2.2.2.2.2.2.1
theorem dX12_see_34 : decode cX12_see 34 = .ok (.iload_n 1, 1) := dGR_34_c_1123.2.2.2.2.2.2.2.2.2.1
theorem dX12_see_35 : decode cX12_see 35 = .ok (.invokevirtual 297, 3) := dGR_34_c_1123.2.2.2.2.2.2.2.2.2.2.1
theorem dX12_see_38 : decode cX12_see 38 = .ok (.ifCond .ne 21, 3) := dGR_34_c_1123.2.2.2.2.2.2.2.2.2.2.2
set_option maxRecDepth 100000 in
theorem dGR_34_c_1124 : (decode cX12_see 41 = .ok (.aload_n 0, 1)) ∧ (decode cX12_see 42 = .ok (.getfield 7, 3)) ∧ (decode cX12_see 45 = .ok (.bipush 6, 2)) ∧ (decode cX12_see 47 = .ok (.iaload, 1)) ∧ (decode cX12_see 48 = .ok (.bipush 30, 2)) ∧ (decode cX12_see 50 = .ok (.if_icmp .ne 9, 3)) ∧ (decode cX12_see 53 = .ok (.aload_n 0, 1)) ∧ (decode cX12_see 54 = .ok (.iconst 4, 1)) ∧ (decode cX12_see 55 = .ok (.invokevirtual 123, 3)) ∧ (decode cX12_see 58 = .ok (.ireturn, 1)) ∧ (decode cX12_see 59 = .ok (.aload_n 0, 1)) ∧ (decode cX12_see 60 = .ok (.invokevirtual 342, 3)) := by decide +kernel
theorem dX12_see_41 : decode cX12_see 41 = .ok (.aload_n 0, 1) := dGR_34_c_1124.1
theorem dX12_see_42 : decode cX12_see 42 = .ok (.getfield 7, 3) := dGR_34_c_1124.2.1
theorem dX12_see_45 : decode cX12_see 45 = .ok (.bipush 6, 2) := dGR_34_c_1124.2.2.1
theorem dX12_see_47 : decode cX12_see 47 = .ok (.iaload, 1) := dGR_34_c_1124.2.2.2.1
theorem dX12_see_48 : decode cX12_see 48 = .ok (.bipush 30, 2) := dGR_34_c_1124.2.2.2.2.1
theorem dX12_see_50 : decode cX12_see 50 = .ok (.if_icmp .ne 9, 3) := dGR_34_c_1124.2.2.2.2.2.1
theorem dX12_see_53 : decode cX12_see 53 = .ok (.aload_n 0, 1) := dGR_34_c_1124.2.2.2.2.2.2.1
theorem dX12_see_54 : decode cX12_see 54 = .ok (.iconst 4, 1) := dGR_34_c_1124.2.2.2.2.2.2.2.1
theorem dX12_see_55 : decode cX12_see 55 = .ok (.invokevirtual 123, 3) := dGR_34_c_1124.2.2.2.2.2.2.2.2.1
theorem dX12_see_58 : decode cX12_see 58 = .ok (.ireturn, 1) := dGR_34_c_1124.2.2.2.2.2.2.2.2.2.1
theorem dX12_see_59 : decode cX12_see 59 = .ok (.aload_n 0, 1) := dGR_34_c_1124.2.2.2.2.2.2.2.2.2.2.1
theorem dX12_see_60 : decode cX12_see 60 = .ok (.invokevirtual 342, 3) := dGR_34_c_1124.2.2.2.2.2.2.2.2.2.2.2
set_option maxRecDepth 100000 in
theorem dGR_34_c_1125 : (decode cX12_see 63 = .ok (.aload_n 0, 1)) ∧ (decode cX12_see 64 = .ok (.iload_n 1, 1)) ∧ (decode cX12_see 65 = .ok (.invokevirtual 297, 3)) ∧ (decode cX12_see 68 = .ok (.lookupswitch 137 #[(0, 28), (1, 128)], 28)) ∧ (decode cX12_see 96 = .ok (.aload_n 0, 1)) ∧ (decode cX12_see 97 = .ok (.aload_n 0, 1)) ∧ (decode cX12_see 98 = .ok (.getfield 7, 3)) ∧ (decode cX12_see 101 = .ok (.bipush 6, 2)) ∧ (decode cX12_see 103 = .ok (.iaload, 1)) ∧ (decode cX12_see 104 = .ok (.invokevirtual 525, 3)) ∧ (decode cX12_see 107 = .ok (.istore_n 3, 1)) ∧ (decode cX12_see 108 = .ok (.aload_n 0, 1)) := by decide +kernel
theorem dX12_see_63 : decode cX12_see 63 = .ok (.aload_n 0, 1) := dGR_34_c_1125.1
theorem dX12_see_64 : decode cX12_see 64 = .ok (.iload_n 1, 1) := dGR_34_c_1125.2.1
theorem dX12_see_65 : decode cX12_see 65 = .ok (.invokevirtual 297, 3) := dGR_34_c_1125.2.2.1
theorem dX12_see_68 : decode cX12_see 68 = .ok (.lookupswitch 137 #[(0, 28), (1, 128)], 28) := dGR_34_c_1125.2.2.2.1
theorem dX12_see_96 : decode cX12_see 96 = .ok (.aload_n 0, 1) := dGR_34_c_1125.2.2.2.2.1
theorem dX12_see_97 : decode cX12_see 97 = .ok (.aload_n 0, 1) := dGR_34_c_1125.2.2.2.2.2.1
theorem dX12_see_98 : decode cX12_see 98 = .ok (.getfield 7, 3) := dGR_34_c_1125.2.2.2.2.2.2.1
theorem dX12_see_101 : decode cX12_see 101 = .ok (.bipush 6, 2) := dGR_34_c_1125.2.2.2.2.2.2.2.1
theorem dX12_see_103 : decode cX12_see 103 = .ok (.iaload, 1) := dGR_34_c_1125.2.2.2.2.2.2.2.2.1
theorem dX12_see_104 : decode cX12_see 104 = .ok (.invokevirtual 525, 3) := dGR_34_c_1125.2.2.2.2.2.2.2.2.2.1
theorem dX12_see_107 : decode cX12_see 107 = .ok (.istore_n 3, 1) := dGR_34_c_1125.2.2.2.2.2.2.2.2.2.2.1
theorem dX12_see_108 : decode cX12_see 108 = .ok (.aload_n 0, 1) := dGR_34_c_1125.2.2.2.2.2.2.2.2.2.2.2
set_option maxRecDepth 100000 in
theorem dGR_34_c_1126 : (decode cX12_see 109 = .ok (.getfield 7, 3)) ∧ (decode cX12_see 112 = .ok (.iload_n 3, 1)) ∧ (decode cX12_see 113 = .ok (.aload_n 0, 1)) ∧ (decode cX12_see 114 = .ok (.getfield 7, 3)) ∧ (decode cX12_see 117 = .ok (.bipush 7, 2)) ∧ (decode cX12_see 119 = .ok (.iaload, 1)) ∧ (decode cX12_see 120 = .ok (.iastore, 1)) ∧ (decode cX12_see 121 = .ok (.aload_n 0, 1)) ∧ (decode cX12_see 122 = .ok (.getfield 7, 3)) ∧ (decode cX12_see 125 = .ok (.iload_n 3, 1)) ∧ (decode cX12_see 126 = .ok (.iconst 1, 1)) ∧ (decode cX12_see 127 = .ok (.iadd, 1)) := by decide +kernel
theorem dX12_see_109 : decode cX12_see 109 = .ok (.getfield 7, 3) := dGR_34_c_1126.1
theorem dX12_see_112 : decode cX12_see 112 = .ok (.iload_n 3, 1) := dGR_34_c_1126.2.1
theorem dX12_see_113 : decode cX12_see 113 = .ok (.aload_n 0, 1) := dGR_34_c_1126.2.2.1
theorem dX12_see_114 : decode cX12_see 114 = .ok (.getfield 7, 3) := dGR_34_c_1126.2.2.2.1
theorem dX12_see_117 : decode cX12_see 117 = .ok (.bipush 7, 2) := dGR_34_c_1126.2.2.2.2.1
theorem dX12_see_119 : decode cX12_see 119 = .ok (.iaload, 1) := dGR_34_c_1126.2.2.2.2.2.1
theorem dX12_see_120 : decode cX12_see 120 = .ok (.iastore, 1) := dGR_34_c_1126.2.2.2.2.2.2.1
theorem dX12_see_121 : decode cX12_see 121 = .ok (.aload_n 0, 1) := dGR_34_c_1126.2.2.2.2.2.2.2.1
theorem dX12_see_122 : decode cX12_see 122 = .ok (.getfield 7, 3) := dGR_34_c_1126.2.2.2.2.2.2.2.2.1
theorem dX12_see_125 : decode cX12_see 125 = .ok (.iload_n 3, 1) := dGR_34_c_1126.2.2.2.2.2.2.2.2.2.1
theorem dX12_see_126 : decode cX12_see 126 = .ok (.iconst 1, 1) := dGR_34_c_1126.2.2.2.2.2.2.2.2.2.2.1
theorem dX12_see_127 : decode cX12_see 127 = .ok (.iadd, 1) := dGR_34_c_1126.2.2.2.2.2.2.2.2.2.2.2
set_option maxRecDepth 100000 in
theorem dGR_34_c_1127 : (decode cX12_see 128 = .ok (.aload_n 0, 1)) ∧ (decode cX12_see 129 = .ok (.getfield 7, 3)) ∧ (decode cX12_see 132 = .ok (.bipush 8, 2)) ∧ (decode cX12_see 134 = .ok (.iaload, 1)) ∧ (decode cX12_see 135 = .ok (.iastore, 1)) ∧ (decode cX12_see 136 = .ok (.aload_n 0, 1)) ∧ (decode cX12_see 137 = .ok (.getfield 7, 3)) ∧ (decode cX12_see 140 = .ok (.iload_n 3, 1)) ∧ (decode cX12_see 141 = .ok (.iconst 2, 1)) ∧ (decode cX12_see 142 = .ok (.iadd, 1)) ∧ (decode cX12_see 143 = .ok (.iload_n 1, 1)) ∧ (decode cX12_see 144 = .ok (.iastore, 1)) := by decide +kernel
theorem dX12_see_128 : decode cX12_see 128 = .ok (.aload_n 0, 1) := dGR_34_c_1127.1
theorem dX12_see_129 : decode cX12_see 129 = .ok (.getfield 7, 3) := dGR_34_c_1127.2.1
theorem dX12_see_132 : decode cX12_see 132 = .ok (.bipush 8, 2) := dGR_34_c_1127.2.2.1
theorem dX12_see_134 : decode cX12_see 134 = .ok (.iaload, 1) := dGR_34_c_1127.2.2.2.1
theorem dX12_see_135 : decode cX12_see 135 = .ok (.iastore, 1) := dGR_34_c_1127.2.2.2.2.1
theorem dX12_see_136 : decode cX12_see 136 = .ok (.aload_n 0, 1) := dGR_34_c_1127.2.2.2.2.2.1
theorem dX12_see_137 : decode cX12_see 137 = .ok (.getfield 7, 3) := dGR_34_c_1127.2.2.2.2.2.2.1
theorem dX12_see_140 : decode cX12_see 140 = .ok (.iload_n 3, 1) := dGR_34_c_1127.2.2.2.2.2.2.2.1
theorem dX12_see_141 : decode cX12_see 141 = .ok (.iconst 2, 1) := dGR_34_c_1127.2.2.2.2.2.2.2.2.1
theorem dX12_see_142 : decode cX12_see 142 = .ok (.iadd, 1) := dGR_34_c_1127.2.2.2.2.2.2.2.2.2.1
theorem dX12_see_143 : decode cX12_see 143 = .ok (.iload_n 1, 1) := dGR_34_c_1127.2.2.2.2.2.2.2.2.2.2.1
theorem dX12_see_144 : decode cX12_see 144 = .ok (.iastore, 1) := dGR_34_c_1127.2.2.2.2.2.2.2.2.2.2.2
set_option maxRecDepth 100000 in
theorem dGR_34_c_1128 : (decode cX12_see 145 = .ok (.aload_n 0, 1)) ∧ (decode cX12_see 146 = .ok (.getfield 7, 3)) ∧ (decode cX12_see 149 = .ok (.bipush 6, 2)) ∧ (decode cX12_see 151 = .ok (.dup2, 1)) ∧ (decode cX12_see 152 = .ok (.iaload, 1)) ∧ (decode cX12_see 153 = .ok (.iconst 1, 1)) ∧ (decode cX12_see 154 = .ok (.iadd, 1)) ∧ (decode cX12_see 155 = .ok (.iastore, 1)) ∧ (decode cX12_see 156 = .ok (.aload_n 0, 1)) ∧ (decode cX12_see 157 = .ok (.getfield 7, 3)) ∧ (decode cX12_see 160 = .ok (.bipush 7, 2)) ∧ (decode cX12_see 162 = .ok (.aload_n 0, 1)) := by decide +kernel
theorem dX12_see_145 : decode cX12_see 145 = .ok (.aload_n 0, 1) := dGR_34_c_1128.1
theorem dX12_see_146 : decode cX12_see 146 = .ok (.getfield 7, 3) := dGR_34_c_1128.2.1
theorem dX12_see_149 : decode cX12_see 149 = .ok (.bipush 6, 2) := dGR_34_c_1128.2.2.1
theorem dX12_see_151 : decode cX12_see 151 = .ok (.dup2, 1) := dGR_34_c_1128.2.2.2.1
theorem dX12_see_152 : decode cX12_see 152 = .ok (.iaload, 1) := dGR_34_c_1128.2.2.2.2.1
theorem dX12_see_153 : decode cX12_see 153 = .ok (.iconst 1, 1) := dGR_34_c_1128.2.2.2.2.2.1
theorem dX12_see_154 : decode cX12_see 154 = .ok (.iadd, 1) := dGR_34_c_1128.2.2.2.2.2.2.1
theorem dX12_see_155 : decode cX12_see 155 = .ok (.iastore, 1) := dGR_34_c_1128.2.2.2.2.2.2.2.1
theorem dX12_see_156 : decode cX12_see 156 = .ok (.aload_n 0, 1) := dGR_34_c_1128.2.2.2.2.2.2.2.2.1
theorem dX12_see_157 : decode cX12_see 157 = .ok (.getfield 7, 3) := dGR_34_c_1128.2.2.2.2.2.2.2.2.2.1
theorem dX12_see_160 : decode cX12_see 160 = .ok (.bipush 7, 2) := dGR_34_c_1128.2.2.2.2.2.2.2.2.2.2.1
theorem dX12_see_162 : decode cX12_see 162 = .ok (.aload_n 0, 1) := dGR_34_c_1128.2.2.2.2.2.2.2.2.2.2.2
set_option maxRecDepth 100000 in
theorem dGR_34_c_1129 : (decode cX12_see 163 = .ok (.getfield 7, 3)) ∧ (decode cX12_see 166 = .ok (.bipush 7, 2)) ∧ (decode cX12_see 168 = .ok (.iaload, 1)) ∧ (decode cX12_see 169 = .ok (.aload_n 0, 1)) ∧ (decode cX12_see 170 = .ok (.iload_n 2, 1)) ∧ (decode cX12_see 171 = .ok (.iload_n 1, 1)) ∧ (decode cX12_see 172 = .ok (.bipush 7, 2)) ∧ (decode cX12_see 174 = .ok (.invokevirtual 323, 3)) ∧ (decode cX12_see 177 = .ok (.invokestatic 332, 3)) ∧ (decode cX12_see 180 = .ok (.iastore, 1)) ∧ (decode cX12_see 181 = .ok (.aload_n 0, 1)) ∧ (decode cX12_see 182 = .ok (.getfield 7, 3)) := by decide +kernel
theorem dX12_see_163 : decode cX12_see 163 = .ok (.getfield 7, 3) := dGR_34_c_1129.1
theorem dX12_see_166 : decode cX12_see 166 = .ok (.bipush 7, 2) := dGR_34_c_1129.2.1
theorem dX12_see_168 : decode cX12_see 168 = .ok (.iaload, 1) := dGR_34_c_1129.2.2.1
theorem dX12_see_169 : decode cX12_see 169 = .ok (.aload_n 0, 1) := dGR_34_c_1129.2.2.2.1
theorem dX12_see_170 : decode cX12_see 170 = .ok (.iload_n 2, 1) := dGR_34_c_1129.2.2.2.2.1
theorem dX12_see_171 : decode cX12_see 171 = .ok (.iload_n 1, 1) := dGR_34_c_1129.2.2.2.2.2.1
theorem dX12_see_172 : decode cX12_see 172 = .ok (.bipush 7, 2) := dGR_34_c_1129.2.2.2.2.2.2.1
theorem dX12_see_174 : decode cX12_see 174 = .ok (.invokevirtual 323, 3) := dGR_34_c_1129.2.2.2.2.2.2.2.1
theorem dX12_see_177 : decode cX12_see 177 = .ok (.invokestatic 332, 3) := dGR_34_c_1129.2.2.2.2.2.2.2.2.1
theorem dX12_see_180 : decode cX12_see 180 = .ok (.iastore, 1) := dGR_34_c_1129.2.2.2.2.2.2.2.2.2.1
theorem dX12_see_181 : decode cX12_see 181 = .ok (.aload_n 0, 1) := dGR_34_c_1129.2.2.2.2.2.2.2.2.2.2.1
theorem dX12_see_182 : decode cX12_see 182 = .ok (.getfield 7, 3) := dGR_34_c_1129.2.2.2.2.2.2.2.2.2.2.2
set_option maxRecDepth 100000 in
theorem dGR_34_c_1130 : (decode cX12_see 185 = .ok (.bipush 8, 2)) ∧ (decode cX12_see 187 = .ok (.aload_n 0, 1)) ∧ (decode cX12_see 188 = .ok (.iload_n 2, 1)) ∧ (decode cX12_see 189 = .ok (.invokevirtual 329, 3)) ∧ (decode cX12_see 192 = .ok (.iastore, 1)) ∧ (decode cX12_see 193 = .ok (.goto 62, 3)) ∧ (decode cX12_see 196 = .ok (.aload_n 0, 1)) ∧ (decode cX12_see 197 = .ok (.iload_n 2, 1)) ∧ (decode cX12_see 198 = .ok (.iload_n 1, 1)) ∧ (decode cX12_see 199 = .ok (.invokevirtual 528, 3)) ∧ (decode cX12_see 202 = .ok (.goto 53, 3)) ∧ (decode cX12_see 205 = .ok (.aload_n 0, 1)) := by decide +kernel
theorem dX12_see_185 : decode cX12_see 185 = .ok (.bipush 8, 2) := dGR_34_c_1130.1
theorem dX12_see_187 : decode cX12_see 187 = .ok (.aload_n 0, 1) := dGR_34_c_1130.2.1
theorem dX12_see_188 : decode cX12_see 188 = .ok (.iload_n 2, 1) := dGR_34_c_1130.2.2.1
theorem dX12_see_189 : decode cX12_see 189 = .ok (.invokevirtual 329, 3) := dGR_34_c_1130.2.2.2.1
theorem dX12_see_192 : decode cX12_see 192 = .ok (.iastore, 1) := dGR_34_c_1130.2.2.2.2.1
theorem dX12_see_193 : decode cX12_see 193 = .ok (.goto 62, 3) := dGR_34_c_1130.2.2.2.2.2.1
theorem dX12_see_196 : decode cX12_see 196 = .ok (.aload_n 0, 1) := dGR_34_c_1130.2.2.2.2.2.2.1
theorem dX12_see_197 : decode cX12_see 197 = .ok (.iload_n 2, 1) := dGR_34_c_1130.2.2.2.2.2.2.2.1
theorem dX12_see_198 : decode cX12_see 198 = .ok (.iload_n 1, 1) := dGR_34_c_1130.2.2.2.2.2.2.2.2.1
theorem dX12_see_199 : decode cX12_see 199 = .ok (.invokevirtual 528, 3) := dGR_34_c_1130.2.2.2.2.2.2.2.2.2.1
theorem dX12_see_202 : decode cX12_see 202 = .ok (.goto 53, 3) := dGR_34_c_1130.2.2.2.2.2.2.2.2.2.2.1
theorem dX12_see_205 : decode cX12_see 205 = .ok (.aload_n 0, 1) := dGR_34_c_1130.2.2.2.2.2.2.2.2.2.2.2
set_option maxRecDepth 100000 in
theorem dGR_34_c_1131 : (decode cX12_see 206 = .ok (.getfield 7, 3)) ∧ (decode cX12_see 209 = .ok (.bipush 7, 2)) ∧ (decode cX12_see 211 = .ok (.aload_n 0, 1)) ∧ (decode cX12_see 212 = .ok (.getfield 7, 3)) ∧ (decode cX12_see 215 = .ok (.bipush 7, 2)) ∧ (decode cX12_see 217 = .ok (.iaload, 1)) ∧ (decode cX12_see 218 = .ok (.aload_n 0, 1)) ∧ (decode cX12_see 219 = .ok (.iload_n 2, 1)) ∧ (decode cX12_see 220 = .ok (.iload_n 1, 1)) ∧ (decode cX12_see 221 = .ok (.bipush 8, 2)) ∧ (decode cX12_see 223 = .ok (.invokevirtual 323, 3)) ∧ (decode cX12_see 226 = .ok (.invokestatic 332, 3)) := by decide +kernel
theorem dX12_see_206 : decode cX12_see 206 = .ok (.getfield 7, 3) := dGR_34_c_1131.1
theorem dX12_see_209 : decode cX12_see 209 = .ok (.bipush 7, 2) := dGR_34_c_1131.2.1
theorem dX12_see_211 : decode cX12_see 211 = .ok (.aload_n 0, 1) := dGR_34_c_1131.2.2.1
theorem dX12_see_212 : decode cX12_see 212 = .ok (.getfield 7, 3) := dGR_34_c_1131.2.2.2.1
theorem dX12_see_215 : decode cX12_see 215 = .ok (.bipush 7, 2) := dGR_34_c_1131.2.2.2.2.1
theorem dX12_see_217 : decode cX12_see 217 = .ok (.iaload, 1) := dGR_34_c_1131.2.2.2.2.2.1
theorem dX12_see_218 : decode cX12_see 218 = .ok (.aload_n 0, 1) := dGR_34_c_1131.2.2.2.2.2.2.1
theorem dX12_see_219 : decode cX12_see 219 = .ok (.iload_n 2, 1) := dGR_34_c_1131.2.2.2.2.2.2.2.1
theorem dX12_see_220 : decode cX12_see 220 = .ok (.iload_n 1, 1) := dGR_34_c_1131.2.2.2.2.2.2.2.2.1
theorem dX12_see_221 : decode cX12_see 221 = .ok (.bipush 8, 2) := dGR_34_c_1131.2.2.2.2.2.2.2.2.2.1
theorem dX12_see_223 : decode cX12_see 223 = .ok (.invokevirtual 323, 3) := dGR_34_c_1131.2.2.2.2.2.2.2.2.2.2.1
theorem dX12_see_226 : decode cX12_see 226 = .ok (.invokestatic 332, 3) := dGR_34_c_1131.2.2.2.2.2.2.2.2.2.2.2
set_option maxRecDepth 100000 in
theorem dGR_34_c_1132 : (decode cX12_see 229 = .ok (.iastore, 1)) ∧ (decode cX12_see 230 = .ok (.aload_n 0, 1)) ∧ (decode cX12_see 231 = .ok (.getfield 7, 3)) ∧ (decode cX12_see 234 = .ok (.bipush 8, 2)) ∧ (decode cX12_see 236 = .ok (.aload_n 0, 1)) ∧ (decode cX12_see 237 = .ok (.getfield 7, 3)) ∧ (decode cX12_see 240 = .ok (.bipush 8, 2)) ∧ (decode cX12_see 242 = .ok (.iaload, 1)) ∧ (decode cX12_see 243 = .ok (.aload_n 0, 1)) ∧ (decode cX12_see 244 = .ok (.iload_n 2, 1)) ∧ (decode cX12_see 245 = .ok (.iload_n 1, 1)) ∧ (decode cX12_see 246 = .ok (.bipush 8, 2)) := by decide +kernel
theorem dX12_see_229 : decode cX12_see 229 = .ok (.iastore, 1) := dGR_34_c_1132.1
theorem dX12_see_230 : decode cX12_see 230 = .ok (.aload_n 0, 1) := dGR_34_c_1132.2.1
theorem dX12_see_231 : decode cX12_see 231 = .ok (.getfield 7, 3) := dGR_34_c_1132.2.2.1
theorem dX12_see_234 : decode cX12_see 234 = .ok (.bipush 8, 2) := dGR_34_c_1132.2.2.2.1
theorem dX12_see_236 : decode cX12_see 236 = .ok (.aload_n 0, 1) := dGR_34_c_1132.2.2.2.2.1
theorem dX12_see_237 : decode cX12_see 237 = .ok (.getfield 7, 3) := dGR_34_c_1132.2.2.2.2.2.1
theorem dX12_see_240 : decode cX12_see 240 = .ok (.bipush 8, 2) := dGR_34_c_1132.2.2.2.2.2.2.1
theorem dX12_see_242 : decode cX12_see 242 = .ok (.iaload, 1) := dGR_34_c_1132.2.2.2.2.2.2.2.1
theorem dX12_see_243 : decode cX12_see 243 = .ok (.aload_n 0, 1) := dGR_34_c_1132.2.2.2.2.2.2.2.2.1
theorem dX12_see_244 : decode cX12_see 244 = .ok (.iload_n 2, 1) := dGR_34_c_1132.2.2.2.2.2.2.2.2.2.1
theorem dX12_see_245 : decode cX12_see 245 = .ok (.iload_n 1, 1) := dGR_34_c_1132.2.2.2.2.2.2.2.2.2.2.1
theorem dX12_see_246 : decode cX12_see 246 = .ok (.bipush 8, 2) := dGR_34_c_1132.2.2.2.2.2.2.2.2.2.2.2
set_option maxRecDepth 100000 in
theorem dGR_34_c_1133 : (decode cX12_see 248 = .ok (.invokevirtual 323, 3)) ∧ (decode cX12_see 251 = .ok (.invokestatic 326, 3)) ∧ (decode cX12_see 254 = .ok (.iastore, 1)) ∧ (decode cX12_see 255 = .ok (.aload_n 0, 1)) ∧ (decode cX12_see 256 = .ok (.getfield 7, 3)) ∧ (decode cX12_see 259 = .ok (.iconst 5, 1)) ∧ (decode cX12_see 260 = .ok (.dup2, 1)) ∧ (decode cX12_see 261 = .ok (.iaload, 1)) ∧ (decode cX12_see 262 = .ok (.iconst 1, 1)) ∧ (decode cX12_see 263 = .ok (.iadd, 1)) ∧ (decode cX12_see 264 = .ok (.iastore, 1)) ∧ (decode cX12_see 265 = .ok (.aload_n 0, 1)) := by decide +kernel
theorem dX12_see_248 : decode cX12_see 248 = .ok (.invokevirtual 323, 3) := dGR_34_c_1133.1
theorem dX12_see_251 : decode cX12_see 251 = .ok (.invokestatic 326, 3) := dGR_34_c_1133.2.1
theorem dX12_see_254 : decode cX12_see 254 = .ok (.iastore, 1) := dGR_34_c_1133.2.2.1
theorem dX12_see_255 : decode cX12_see 255 = .ok (.aload_n 0, 1) := dGR_34_c_1133.2.2.2.1
theorem dX12_see_256 : decode cX12_see 256 = .ok (.getfield 7, 3) := dGR_34_c_1133.2.2.2.2.1
theorem dX12_see_259 : decode cX12_see 259 = .ok (.iconst 5, 1) := dGR_34_c_1133.2.2.2.2.2.1
theorem dX12_see_260 : decode cX12_see 260 = .ok (.dup2, 1) := dGR_34_c_1133.2.2.2.2.2.2.1
theorem dX12_see_261 : decode cX12_see 261 = .ok (.iaload, 1) := dGR_34_c_1133.2.2.2.2.2.2.2.1
theorem dX12_see_262 : decode cX12_see 262 = .ok (.iconst 1, 1) := dGR_34_c_1133.2.2.2.2.2.2.2.2.1
theorem dX12_see_263 : decode cX12_see 263 = .ok (.iadd, 1) := dGR_34_c_1133.2.2.2.2.2.2.2.2.2.1
theorem dX12_see_264 : decode cX12_see 264 = .ok (.iastore, 1) := dGR_34_c_1133.2.2.2.2.2.2.2.2.2.2.1
theorem dX12_see_265 : decode cX12_see 265 = .ok (.aload_n 0, 1) := dGR_34_c_1133.2.2.2.2.2.2.2.2.2.2.2
set_option maxRecDepth 100000 in
theorem dGR_34_c_1134 : (decode cX12_see 266 = .ok (.aload_n 0, 1)) ∧ (decode cX12_see 267 = .ok (.invokevirtual 522, 3)) ∧ (decode cX12_see 270 = .ok (.invokevirtual 127, 3)) ∧ (decode cX12_see 273 = .ok (.ireturn, 1)) := by decide +kernel
theorem dX12_see_266 : decode cX12_see 266 = .ok (.aload_n 0, 1) := dGR_34_c_1134.1
theorem dX12_see_267 : decode cX12_see 267 = .ok (.invokevirtual 522, 3) := dGR_34_c_1134.2.1
theorem dX12_see_270 : decode cX12_see 270 = .ok (.invokevirtual 127, 3) := dGR_34_c_1134.2.2.1
theorem dX12_see_273 : decode cX12_see 273 = .ok (.ireturn, 1) := dGR_34_c_1134.2.2.2
