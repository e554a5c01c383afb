set_option maxRecDepth 100000 in
theorem dGR_41_c_1218 : (decode cX12_table 0 = .ok (.aload_n 0, 1)) ∧ (decode cX12_table 1 = .ok (.iload_n 1, 1)) ∧ (decode cX12_table 2 = .ok (.invokevirtual 282, 3)) ∧ (decode cX12_table 5 = .ok (.ifCond .ne 9, 3)) ∧ (decode cX12_table 8 = .ok (.aload_n 0, 1)) ∧ (decode cX12_table 9 = .ok (.iconst 1, 1)) ∧ (decode cX12_table 10 = .ok (.invokevirtual 123, 3)) ∧ (decode cX12_table 13 = .ok (.ireturn, 1)) ∧ (decode cX12_table 14 = .ok (.aload_n 0, 1)) ∧ (decode cX12_table 15 = .ok (.iload_n 1, 1)) ∧ (decode cX12_table 16 = .ok (.invokevirtual 422, 3)) ∧ (decode cX12_table 19 = .ok (.ifCond .eq 14, 3)) := by decide +kernel
theorem dX12_table_0 : decode cX12_table 0 = .ok (.aload_n 0, 1) := dGR_41_c_1218.1
theorem dX12_table_1 : decode cX12_table 1 = .ok (.iload_n 1, 1) := dGR_41_c_1218.2.1
theorem dX12_table_2 : decode cX12_table 2 = .ok (.invokevirtual 282, 3) := dGR_41_c_1218.2.2.1
theorem dX12_table_5 : decode cX12_table 5 = .ok (.ifCond .ne 9, 3) := dGR_41_c_1218.2.2.2.1
theorem dX12_table_8 : decode cX12_table 8 = .ok (.aload_n 0, 1) := dGR_41_c_1218.2.2.2.2.1
theorem dX12_table_9 : decode cX12_table 9 = .ok (.iconst 1, 1) := dGR_41_c_1218.2.2.2.2.2.1
theorem dX12_table_10 : decode cX12_table 10 = .ok (.invokevirtual 123, 3) := dGR_41_c_1218.2.2.2.2.2.2.1
theorem dX12_table_13 : decode cX12_table 13 = .ok (.ireturn, 1) := dGR_41_c_1218.2.2.2.2.2.2.2.1
theorem dX12_table_14 : decode cX12_table 14 = .ok (.aload_n 0, 1) := dGR_41_c_1218.2.2.2.2.2.2.2.2.1
theorem dX12_table_15 : decode cX12_table 15 = .ok (.iload_n 1, 1) := dGR_41_c_1218.2.2.2.2.2.2.2.2.2.1
theorem dX12_table_16 : decode cX12_table 16 = .ok (.invokevirtual 422, 3) := dGR_41_c_1218.2.2.2.2.2.2.2.2.2.2.1
theorem dX12_table_19 : decode cX12_table 19 = .ok (.ifCond .eq 14, 3) := dGR_41_c_1218.2.2.2.2.2.2.2.2.2.2.2
set_option maxRecDepth 100000 in
theorem dGR_41_c_1219 : (decode cX12_table 22 = .ok (.aload_n 0, 1)) ∧ (decode cX12_table 23 = .ok (.aload_n 0, 1)) ∧ (decode cX12_table 24 = .ok (.getfield 403, 3)) ∧ (decode cX12_table 27 = .ok (.invokevirtual 127, 3)) ∧ (decode cX12_table 30 = .ok (.goto 9, 3)) ∧ (decode cX12_table 33 = .ok (.aload_n 0, 1)) ∧ (decode cX12_table 34 = .ok (.bipush 7, 2)) ∧ (decode cX12_table 36 = .ok (.invokevirtual 123, 3)) ∧ (decode cX12_table 39 = .ok (.ireturn, 1)) := by decide +kernel
theorem dX12_table_22 : decode cX12_table 22 = .ok (.aload_n 0, 1) := dGR_41_c_1219.1
theorem dX12_table_23 : decode cX12_table 23 = .ok (.aload_n 0, 1) := dGR_41_c_1219.2.1
theorem dX12_table_24 : decode cX12_table 24 = .ok (.getfield 403, 3) := dGR_41_c_1219.2.2.1
theorem dX12_table_27 : decode cX12_table 27 = .ok (.invokevirtual 127, 3) := dGR_41_c_1219.2.2.2.1
theorem dX12_table_30 : decode cX12_table 30 = .ok (.goto 9, 3) := dGR_41_c_1219.2.2.2.2.1
theorem dX12_table_33 : decode cX12_table 33 = .ok (.aload_n 0, 1) := dGR_41_c_1219.2.2.2.2.2.1
theorem dX12_table_34 : decode cX12_table 34 = .ok (.bipush 7, 2) := dGR_41_c_1219.2.2.2.2.2.2.1
theorem dX12_table_36 : decode cX12_table 36 = .ok (.invokevirtual 123, 3) := dGR_41_c_1219.2.2.2.2.2.2.2.1
theorem dX12_table_39 : decode cX12_table 39 = .ok (.ireturn, 1) := dGR_41_c_1219.2.2.2.2.2.2.2.2
set_option maxRecDepth 100000 in
theorem dGR_41_c_1220 : (decode cX12_summary 0 = .ok (.aload_n 0, 1)) ∧ (decode cX12_summary 1 = .ok (.iload_n 1, 1)) ∧ (decode cX12_summary 2 = .ok (.invokevirtual 282, 3)) ∧ (decode cX12_summary 5 = .ok (.ifCond .eq 12, 3)) ∧ (decode cX12_summary 8 = .ok (.iload_n 3, 1)) ∧ (decode cX12_summary 9 = .ok (.ifCond .lt 8, 3)) ∧ (decode cX12_summary 12 = .ok (.iload_n 3, 1)) ∧ (decode cX12_summary 13 = .ok (.iconst 2, 1)) ∧ (decode cX12_summary 14 = .ok (.if_icmp .le 9, 3)) ∧ (decode cX12_summary 17 = .ok (.aload_n 0, 1)) ∧ (decode cX12_summary 18 = .ok (.iconst 1, 1)) ∧ (decode cX12_summary 19 = .ok (.invokevirtual 123, 3)) := by decide +kernel
theorem dX12_summary_0 : decode cX12_summary 0 = .ok (.aload_n 0, 1) := dGR_41_c_1220.1
theorem dX12_summary_1 : decode cX12_summary 1 = .ok (.iload_n 1, 1) := dGR_41_c_1220.2.1
theorem dX12_summary_2 : decode cX12_summary 2 = .ok (.invokevirtual 282, 3) := dGR_41_c_1220.2.2.1
theorem dX12_summary_5 : decode cX12_summary 5 = .ok (.ifCond .eq 12, 3) := dGR_41_c_1220.2.2.2.1
theorem dX12_summary_8 : decode cX12_summary 8 = .ok (.iload_n 3, 1) := dGR_41_c_1220.2.2.2.2.1
theorem dX12_summary_9 : decode cX12_summary 9 = .ok (.ifCond .lt 8, 3) := dGR_41_c_1220.2.2.2.2.2.1
theorem dX12_summary_12 : decode cX12_summary 12 = .ok (.iload_n 3, 1) := dGR_41_c_1220.2.2.2.2.2.2.1
theorem dX12_summary_13 : decode cX12_summary 13 = .ok (.iconst 2, 1) := dGR_41_c_1220.2.2.2.2.2.2.2.1
theorem dX12_summary_14 : decode cX12_summary 14 = .ok (.if_icmp .le 9, 3) := dGR_41_c_1220.2.2.2.2.2.2.2.2.1
theorem dX12_summary_17 : decode cX12_summary 17 = .ok (.aload_n 0, 1) := dGR_41_c_1220.2.2.2.2.2.2.2.2.2.1
theorem dX12_summary_18 : decode cX12_summary 18 = .ok (.iconst 1, 1) := dGR_41_c_1220.2.2.2.2.2.2.2.2.2.2.1
theorem dX12_summary_19 : decode cX12_summary 19 = .ok (.invokevirtual 123, 3) := dGR_41_c_1220.2.2.2.2.2.2.2.2.2.2.2
set_option maxRecDepth 100000 in
theorem dGR_41_c_1221 : (decode cX12_summary 22 = .ok (.ireturn, 1)) ∧ (decode cX12_summary 23 = .ok (.aload_n 0, 1)) ∧ (decode cX12_summary 24 = .ok (.iload_n 1, 1)) ∧ (decode cX12_summary 25 = .ok (.invokevirtual 422, 3)) ∧ (decode cX12_summary 28 = .ok (.ifCond .ne 10, 3)) ∧ (decode cX12_summary 31 = .ok (.aload_n 0, 1)) ∧ (decode cX12_summary 32 = .ok (.bipush 7, 2)) ∧ (decode cX12_summary 34 = .ok (.invokevirtual 123, 3)) ∧ (decode cX12_summary 37 = .ok (.ireturn, 1)) ∧ (decode cX12_summary 38 = .ok (.aload_n 0, 1)) ∧ (decode cX12_summary 39 = .ok (.iload_n 2, 1)) ∧ (decode cX12_summary 40 = .ok (.invokevirtual 425, 3)) := by decide +kernel
theorem dX12_summary_22 : decode cX12_summary 22 = .ok (.ireturn, 1) := dGR_41_c_1221.1
theorem dX12_summary_23 : decode cX12_summary 23 = .ok (.aload_n 0, 1) := dGR_41_c_1221.2.1
theorem dX12_summary_24 : decode cX12_summary 24 = .ok (.iload_n 1, 1) := dGR_41_c_1221.2.2.1
theorem dX12_summary_25 : decode cX12_summary 25 = .ok (.invokevirtual 422, 3) := dGR_41_c_1221.2.2.2.1
theorem dX12_summary_28 : decode cX12_summary 28 = .ok (.ifCond .ne 10, 3) := dGR_41_c_1221.2.2.2.2.1
theorem dX12_summary_31 : decode cX12_summary 31 = .ok (.aload_n 0, 1) := dGR_41_c_1221.2.2.2.2.2.1
theorem dX12_summary_32 : decode cX12_summary 32 = .ok (.bipush 7, 2) := dGR_41_c_1221.2.2.2.2.2.2.1
theorem dX12_summary_34 : decode cX12_summary 34 = .ok (.invokevirtual 123, 3) := dGR_41_c_1221.2.2.2.2.2.2.2.1
theorem dX12_summary_37 : decode cX12_summary 37 = .ok (.ireturn, 1) := dGR_41_c_1221.2.2.2.2.2.2.2.2.1
theorem dX12_summary_38 : decode cX12_summary 38 = .ok (.aload_n 0, 1) := dGR_41_c_1221.2.2.2.2.2.2.2.2.2.1
theorem dX12_summary_39 : decode cX12_summary 39 = .ok (.iload_n 2, 1) := dGR_41_c_1221.2.2.2.2.2.2.2.2.2.2.1
theorem dX12_summary_40 : decode cX12_summary 40 = .ok (.invokevirtual 425, 3) := dGR_41_c_1221.2.2.2.2.2.2.2.2.2.2.2
set_option maxRecDepth 100000 in
theorem dGR_41_c_1222 : (decode cX12_summary 43 = .ok (.ifCond .ne 10, 3)) ∧ (decode cX12_summary 46 = .ok (.aload_n 0, 1)) ∧ (decode cX12_summary 47 = .ok (.bipush 6, 2)) ∧ (decode cX12_summary 49 = .ok (.invokevirtual 123, 3)) ∧ (decode cX12_summary 52 = .ok (.ireturn, 1)) ∧ (decode cX12_summary 53 = .ok (.aload_n 0, 1)) ∧ (decode cX12_summary 54 = .ok (.iload_n 3, 1)) ∧ (decode cX12_summary 55 = .ok (.ifCond .ne 12, 3)) ∧ (decode cX12_summary 58 = .ok (.aload_n 0, 1)) ∧ (decode cX12_summary 59 = .ok (.getfield 74, 3)) ∧ (decode cX12_summary 62 = .ok (.iload_n 2, 1)) ∧ (decode cX12_summary 63 = .ok (.iaload, 1)) := by decide +kernel
theorem dX12_summary_43 : decode cX12_summary 43 = .ok (.ifCond .ne 10, 3) := dGR_41_c_1222.1
theorem dX12_summary_46 : decode cX12_summary 46 = .ok (.aload_n 0, 1) := dGR_41_c_1222.2.1
theorem dX12_summary_47 : decode cX12_summary 47 = .ok (.bipush 6, 2) := dGR_41_c_1222.2.2.1
theorem dX12_summary_49 : decode cX12_summary 49 = .ok (.invokevirtual 123, 3) := dGR_41_c_1222.2.2.2.1
theorem dX12_summary_52 : decode cX12_summary 52 = .ok (.ireturn, 1) := dGR_41_c_1222.2.2.2.2.1
theorem dX12_summary_53 : decode cX12_summary 53 = .ok (.aload_n 0, 1) := dGR_41_c_1222.2.2.2.2.2.1
theorem dX12_summary_54 : decode cX12_summary 54 = .ok (.iload_n 3, 1) := dGR_41_c_1222.2.2.2.2.2.2.1
theorem dX12_summary_55 : decode cX12_summary 55 = .ok (.ifCond .ne 12, 3) := dGR_41_c_1222.2.2.2.2.2.2.2.1
theorem dX12_summary_58 : decode cX12_summary 58 = .ok (.aload_n 0, 1) := dGR_41_c_1222.2.2.2.2.2.2.2.2.1
theorem dX12_summary_59 : decode cX12_summary 59 = .ok (.getfield 74, 3) := dGR_41_c_1222.2.2.2.2.2.2.2.2.2.1
theorem dX12_summary_62 : decode cX12_summary 62 = .ok (.iload_n 2, 1) := dGR_41_c_1222.2.2.2.2.2.2.2.2.2.2.1
theorem dX12_summary_63 : decode cX12_summary 63 = .ok (.iaload, 1) := dGR_41_c_1222.2.2.2.2.2.2.2.2.2.2.2
set_option maxRecDepth 100000 in
theorem dGR_41_c_1223 : (decode cX12_summary 64 = .ok (.goto 38, 3)) ∧ (decode cX12_summary 67 = .ok (.iload_n 3, 1)) ∧ (decode cX12_summary 68 = .ok (.iconst 1, 1)) ∧ (decode cX12_summary 69 = .ok (.if_icmp .ne 12, 3)) ∧ (decode cX12_summary 72 = .ok (.aload_n 0, 1)) ∧ (decode cX12_summary 73 = .ok (.getfield 77, 3)) ∧ (decode cX12_summary 76 = .ok (.iload_n 2, 1)) ∧ (decode cX12_summary 77 = .ok (.iaload, 1)) ∧ (decode cX12_summary 78 = .ok (.goto 24, 3)) ∧ (decode cX12_summary 81 = .ok (.aload_n 0, 1)) ∧ (decode cX12_summary 82 = .ok (.getfield 74, 3)) ∧ (decode cX12_summary 85 = .ok (.iload_n 2, 1)) := by decide +kernel
theorem dX12_summary_64 : decode cX12_summary 64 = .ok (.goto 38, 3) := dGR_41_c_1223.1
theorem dX12_summary_67 : decode cX12_summary 67 = .ok (.iload_n 3, 1) := dGR_41_c_1223.2.1
theorem dX12_summary_68 : decode cX12_summary 68 = .ok (.iconst 1, 1) := dGR_41_c_1223.2.2.1
theorem dX12_summary_69 : decode cX12_summary 69 = .ok (.if_icmp .ne 12, 3) := dGR_41_c_1223.2.2.2.1
theorem dX12_summary_72 : decode cX12_summary 72 = .ok (.aload_n 0, 1) := dGR_41_c_1223.2.2.2.2.1
theorem dX12_summary_73 : decode cX12_summary 73 = .ok (.getfield 77, 3) := dGR_41_c_1223.2.2.2.2.2.1
theorem dX12_summary_76 : decode cX12_summary 76 = .ok (.iload_n 2, 1) := dGR_41_c_1223.2.2.2.2.2.2.1
theorem dX12_summary_77 : decode cX12_summary 77 = .ok (.iaload, 1) := dGR_41_c_1223.2.2.2.2.2.2.2.1
theorem dX12_summary_78 : decode cX12_summary 78 = .ok (.goto 24, 3) := dGR_41_c_1223.2.2.2.2.2.2.2.2.1
theorem dX12_summary_81 : decode cX12_summary 81 = .ok (.aload_n 0, 1) := dGR_41_c_1223.2.2.2.2.2.2.2.2.2.1
theorem dX12_summary_82 : decode cX12_summary 82 = .ok (.getfield 74, 3) := dGR_41_c_1223.2.2.2.2.2.2.2.2.2.2.1
theorem dX12_summary_85 : decode cX12_summary 85 = .ok (.iload_n 2, 1) := dGR_41_c_1223.2.2.2.2.2.2.2.2.2.2.2
set_option maxRecDepth 100000 in
theorem dGR_41_c_1224 : (decode cX12_summary 86 = .ok (.iaload, 1)) ∧ (decode cX12_summary 87 = .ok (.aload_n 0, 1)) ∧ (decode cX12_summary 88 = .ok (.iload_n 1, 1)) ∧ (decode cX12_summary 89 = .ok (.iconst 3, 1)) ∧ (decode cX12_summary 90 = .ok (.invokevirtual 288, 3)) ∧ (decode cX12_summary 93 = .ok (.iand, 1)) ∧ (decode cX12_summary 94 = .ok (.ifCond .eq 7, 3)) ∧ (decode cX12_summary 97 = .ok (.iconst 1, 1)) ∧ (decode cX12_summary 98 = .ok (.goto 4, 3)) ∧ (decode cX12_summary 101 = .ok (.iconst 0, 1)) ∧ (decode cX12_summary 102 = .ok (.invokevirtual 127, 3)) ∧ (decode cX12_summary 105 = .ok (.ireturn, 1)) := by decide +kernel
theorem dX12_summary_86 : decode cX12_summary 86 = .ok (.iaload, 1) := dGR_41_c_1224.1
theorem dX12_summary_87 : decode cX12_summary 87 = .ok (.aload_n 0, 1) := dGR_41_c_1224.2.1
theorem dX12_summary_88 : decode cX12_summary 88 = .ok (.iload_n 1, 1) := dGR_41_c_1224.2.2.1
theorem dX12_summary_89 : decode cX12_summary 89 = .ok (.iconst 3, 1) := dGR_41_c_1224.2.2.2.1
theorem dX12_summary_90 : decode cX12_summary 90 = .ok (.invokevirtual 288, 3) := dGR_41_c_1224.2.2.2.2.1
theorem dX12_summary_93 : decode cX12_summary 93 = .ok (.iand, 1) := dGR_41_c_1224.2.2.2.2.2.1
theorem dX12_summary_94 : decode cX12_summary 94 = .ok (.ifCond .eq 7, 3) := dGR_41_c_1224.2.2.2.2.2.2.1
theorem dX12_summary_97 : decode cX12_summary 97 = .ok (.iconst 1, 1) := dGR_41_c_1224.2.2.2.2.2.2.2.1
theorem dX12_summary_98 : decode cX12_summary 98 = .ok (.goto 4, 3) := dGR_41_c_1224.2.2.2.2.2.2.2.2.1
theorem dX12_summary_101 : decode cX12_summary 101 = .ok (.iconst 0, 1) := dGR_41_c_1224.2.2.2.2.2.2.2.2.2.1
theorem dX12_summary_102 : decode cX12_summary 102 = .ok (.invokevirtual 127, 3) := dGR_41_c_1224.2.2.2.2.2.2.2.2.2.2.1
theorem dX12_summary_105 : decode cX12_summary 105 = .ok (.ireturn, 1) := dGR_41_c_1224.2.2.2.2.2.2.2.2.2.2.2
set_option maxRecDepth 100000 in
theorem dGR_41_c_1225 : (decode cX12_next 0 = .ok (.aload_n 0, 1)) ∧ (decode cX12_next 1 = .ok (.iload_n 1, 1)) ∧ (decode cX12_next 2 = .ok (.invokevirtual 282, 3)) ∧ (decode cX12_next 5 = .ok (.ifCond .eq 11, 3)) ∧ (decode cX12_next 8 = .ok (.aload_n 0, 1)) ∧ (decode cX12_next 9 = .ok (.iload_n 3, 1)) ∧ (decode cX12_next 10 = .ok (.invokevirtual 300, 3)) ∧ (decode cX12_next 13 = .ok (.ifCond .ne 9, 3)) ∧ (decode cX12_next 16 = .ok (.aload_n 0, 1)) ∧ (decode cX12_next 17 = .ok (.iconst 1, 1)) ∧ (decode cX12_next 18 = .ok (.invokevirtual 123, 3)) ∧ (decode cX12_next 21 = .ok (.ireturn, 1)) := by decide +kernel
theorem dX12_next_0 : decode cX12_next 0 = .ok (.aload_n 0, 1) := dGR_41_c_1225.1
theorem dX12_next_1 : decode cX12_next 1 = .ok (.iload_n 1, 1) := dGR_41_c_1225.2.1
theorem dX12_next_2 : decode cX12_next 2 = .ok (.invokevirtual 282, 3) := dGR_41_c_1225.2.2.1
theorem dX12_next_5 : decode cX12_next 5 = .ok (.ifCond .eq 11, 3) := dGR_41_c_1225.2.2.2.1
theorem dX12_next_8 : decode cX12_next 8 = .ok (.aload_n 0, 1) := dGR_41_c_1225.2.2.2.2.1
theorem dX12_next_9 : decode cX12_next 9 = .ok (.iload_n 3, 1) := dGR_41_c_1225.2.2.2.2.2.1
theorem dX12_next_10 : decode cX12_next 10 = .ok (.invokevirtual 300, 3) := dGR_41_c_1225.2.2.2.2.2.2.1
theorem dX12_next_13 : decode cX12_next 13 = .ok (.ifCond .ne 9, 3) := dGR_41_c_1225.2.2.2.2.2.2.2.1
theorem dX12_next_16 : decode cX12_next 16 = .ok (.aload_n 0, 1) := dGR_41_c_1225.2.2.2.2.2.2.2.2.1
theorem dX12_next_17 : decode cX12_next 17 = .ok (.iconst 1, 1) := dGR_41_c_1225.2.2.2.2.2.2.2.2.2.1
theorem dX12_next_18 : decode cX12_next 18 = .ok (.invokevirtual 123, 3) := dGR_41_c_1225.2.2.2.2.2.2.2.2.2.2.1
theorem dX12_next_21 : decode cX12_next 21 = .ok (.ireturn, 1) := dGR_41_c_1225.2.2.2.2.2.2.2.2.2.2.2
set_option maxRecDepth 100000 in
theorem dGR_41_c_1226 : (decode cX12_next 22 = .ok (.aload_n 0, 1)) ∧ (decode cX12_next 23 = .ok (.iload_n 1, 1)) ∧ (decode cX12_next 24 = .ok (.invokevirtual 422, 3)) ∧ (decode cX12_next 27 = .ok (.ifCond .ne 10, 3)) ∧ (decode cX12_next 30 = .ok (.aload_n 0, 1)) ∧ (decode cX12_next 31 = .ok (.bipush 7, 2)) ∧ (decode cX12_next 33 = .ok (.invokevirtual 123, 3)) ∧ (decode cX12_next 36 = .ok (.ireturn, 1)) ∧ (decode cX12_next 37 = .ok (.aload_n 0, 1)) ∧ (decode cX12_next 38 = .ok (.iload_n 2, 1)) ∧ (decode cX12_next 39 = .ok (.invokevirtual 425, 3)) ∧ (decode cX12_next 42 = .ok (.ifCond .ne 10, 3)) := by decide +kernel
theorem dX12_next_22 : decode cX12_next 22 = .ok (.aload_n 0, 1) := dGR_41_c_1226.1
theorem dX12_next_23 : decode cX12_next 23 = .ok (.iload_n 1, 1) := dGR_41_c_1226.2.1
theorem dX12_next_24 : decode cX12_next 24 = .ok (.invokevirtual 422, 3) := dGR_41_c_1226.2.2.1
theorem dX12_next_27 : decode cX12_next 27 = .ok (.ifCond .ne 10, 3) := dGR_41_c_1226.2.2.2.1
theorem dX12_next_30 : decode cX12_next 30 = .ok (.aload_n 0, 1) := dGR_41_c_1226.2.2.2.2.1
theorem dX12_next_31 : decode cX12_next 31 = .ok (.bipush 7, 2) := dGR_41_c_1226.2.2.2.2.2.1
theorem dX12_next_33 : decode cX12_next 33 = .ok (.invokevirtual 123, 3) := dGR_41_c_1226.2.2.2.2.2.2.1
theorem dX12_next_36 : decode cX12_next 36 = .ok (.ireturn, 1) := dGR_41_c_1226.2.2.2.2.2.2.2.1
theorem dX12_next_37 : decode cX12_next 37 = .ok (.aload_n 0, 1) := dGR_41_c_1226.2.2.2.2.2.2.2.2.1
theorem dX12_next_38 : decode cX12_next 38 = .ok (.iload_n 2, 1) := dGR_41_c_1226.2.2.2.2.2.2.2.2.2.1
theorem dX12_next_39 : decode cX12_next 39 = .ok (.invokevirtual 425, 3) := dGR_41_c_1226.2.2.2.2.2.2.2.2.2.2.1
theorem dX12_next_42 : decode cX12_next 42 = .ok (.ifCond .ne 10, 3) := dGR_41_c_1226.2.2.2.2.2.2.2.2.2.2.2
set_option maxRecDepth 100000 in
theorem dGR_41_c_1227 : (decode cX12_next 45 = .ok (.aload_n 0, 1)) ∧ (decode cX12_next 46 = .ok (.bipush 6, 2)) ∧ (decode cX12_next 48 = .ok (.invokevirtual 123, 3)) ∧ (decode cX12_next 51 = .ok (.ireturn, 1)) ∧ (decode cX12_next 52 = .ok (.aload_n 0, 1)) ∧ (decode cX12_next 53 = .ok (.aload_n 0, 1)) ∧ (decode cX12_next 54 = .ok (.aload_n 0, 1)) ∧ (decode cX12_next 55 = .ok (.iload_n 1, 1)) ∧ (decode cX12_next 56 = .ok (.iload_n 2, 1)) ∧ (decode cX12_next 57 = .ok (.iload_n 3, 1)) ∧ (decode cX12_next 58 = .ok (.invokevirtual 412, 3)) ∧ (decode cX12_next 61 = .ok (.aload_n 0, 1)) := by decide +kernel
theorem dX12_next_45 : decode cX12_next 45 = .ok (.aload_n 0, 1) := dGR_41_c_1227.1
theorem dX12_next_46 : decode cX12_next 46 = .ok (.bipush 6, 2) := dGR_41_c_1227.2.1
theorem dX12_next_48 : decode cX12_next 48 = .ok (.invokevirtual 123, 3) := dGR_41_c_1227.2.2.1
theorem dX12_next_51 : decode cX12_next 51 = .ok (.ireturn, 1) := dGR_41_c_1227.2.2.2.1
theorem dX12_next_52 : decode cX12_next 52 = .ok (.aload_n 0, 1) := dGR_41_c_1227.2.2.2.2.1
theorem dX12_next_53 : decode cX12_next 53 = .ok (.aload_n 0, 1) := dGR_41_c_1227.2.2.2.2.2.1
theorem dX12_next_54 : decode cX12_next 54 = .ok (.aload_n 0, 1) := dGR_41_c_1227.2.2.2.2.2.2.1
theorem dX12_next_55 : decode cX12_next 55 = .ok (.iload_n 1, 1) := dGR_41_c_1227.2.2.2.2.2.2.2.1
theorem dX12_next_56 : decode cX12_next 56 = .ok (.iload_n 2, 1) := dGR_41_c_1227.2.2.2.2.2.2.2.2.1
theorem dX12_next_57 : decode cX12_next 57 = .ok (.iload_n 3, 1) := dGR_41_c_1227.2.2.2.2.2.2.2.2.2.1
theorem dX12_next_58 : decode cX12_next 58 = .ok (.invokevirtual 412, 3) := dGR_41_c_1227.2.2.2.2.2.2.2.2.2.2.1
theorem dX12_next_61 : decode cX12_next 61 = .ok (.aload_n 0, 1) := dGR_41_c_1227.2.2.2.2.2.2.2.2.2.2.2
set_option maxRecDepth 100000 in
theorem dGR_41_c_1228 : (decode cX12_next 62 = .ok (.iload_n 1, 1)) ∧ (decode cX12_next 63 = .ok (.iload_n 2, 1)) ∧ (decode cX12_next 64 = .ok (.iload_n 3, 1)) ∧ (decode cX12_next 65 = .ok (.invokevirtual 415, 3)) ∧ (decode cX12_next 68 = .ok (.invokevirtual 406, 3)) ∧ (decode cX12_next 71 = .ok (.invokevirtual 127, 3)) ∧ (decode cX12_next 74 = .ok (.ireturn, 1)) := by decide +kernel
theorem dX12_next_62 : decode cX12_next 62 = .ok (.iload_n 1, 1) := dGR_41_c_1228.1
theorem dX12_next_63 : decode cX12_next 63 = .ok (.iload_n 2, 1) := dGR_41_c_1228.2.1
theorem dX12_next_64 : decode cX12_next 64 = .ok (.iload_n 3, 1) := dGR_41_c_1228.2.2.1
theorem dX12_next_65 : decode cX12_next 65 = .ok (.invokevirtual 415, 3) := dGR_41_c_1228.2.2.2.1
theorem dX12_next_68 : decode cX12_next 68 = .ok (.invokevirtual 406, 3) := dGR_41_c_1228.2.2.2.2.1
theorem dX12_next_71 : decode cX12_next 71 = .ok (.invokevirtual 127, 3) := dGR_41_c_1228.2.2.2.2.2.1
theorem dX12_next_74 : decode cX12_next 74 = .ok (.ireturn, 1) := dGR_41_c_1228.2.2.2.2.2.2
set_option maxRecDepth 100000 in
theorem dGR_41_c_1229 : (decode cX12_nextBack 0 = .ok (.aload_n 0, 1)) ∧ (decode cX12_nextBack 1 = .ok (.iload_n 1, 1)) ∧ (decode cX12_nextBack 2 = .ok (.invokevirtual 282, 3)) ∧ (decode cX12_nextBack 5 = .ok (.ifCond .eq 38, 3)) ∧ (decode cX12_nextBack 8 = .ok (.aload_n 0, 1)) ∧ (decode cX12_nextBack 9 = .ok (.iload_n 3, 1)) ∧ (decode cX12_nextBack 10 = .ok (.invokevirtual 300, 3)) ∧ (decode cX12_nextBack 13 = .ok (.ifCond .eq 30, 3)) ∧ (decode cX12_nextBack 16 = .ok (.aload_n 0, 1)) ∧ (decode cX12_nextBack 17 = .ok (.iload 5, 2)) ∧ (decode cX12_nextBack 19 = .ok (.invokevirtual 300, 3)) ∧ (decode cX12_nextBack 22 = .ok (.ifCond .eq 21, 3)) := by decide +kernel
theorem dX12_nextBack_0 : decode cX12_nextBack 0 = .ok (.aload_n 0, 1) := dGR_41_c_1229.1
theorem dX12_nextBack_1 : decode cX12_nextBack 1 = .ok (.iload_n 1, 1) := dGR_41_c_1229.2.1
theorem dX12_nextBack_2 : decode cX12_nextBack 2 = .ok (.invokevirtual 282, 3) := dGR_41_c_1229.2.2.1
theorem dX12_nextBack_5 : decode cX12_nextBack 5 = .ok (.ifCond .eq 38, 3) := dGR_41_c_1229.2.2.2.1
theorem dX12_nextBack_8 : decode cX12_nextBack 8 = .ok (.aload_n 0, 1) := dGR_41_c_1229.2.2.2.2.1
theorem dX12_nextBack_9 : decode cX12_nextBack 9 = .ok (.iload_n 3, 1) := dGR_41_c_1229.2.2.2.2.2.1
theorem dX12_nextBack_10 : decode cX12_nextBack 10 = .ok (.invokevirtual 300, 3) := dGR_41_c_1229.2.2.2.2.2.2.1
theorem dX12_nextBack_13 : decode cX12_nextBack 13 = .ok (.ifCond .eq 30, 3) := dGR_41_c_1229.2.2.2.2.2.2.2.1
theorem dX12_nextBack_16 : decode cX12_nextBack 16 = .ok (.aload_n 0, 1) := dGR_41_c_1229.2.2.2.2.2.2.2.2.1
theorem dX12_nextBack_17 : decode cX12_nextBack 17 = .ok (.iload 5, 2) := dGR_41_c_1229.2.2.2.2.2.2.2.2.2.1
theorem dX12_nextBack_19 : decode cX12_nextBack 19 = .ok (.invokevirtual 300, 3) := dGR_41_c_1229.2.2.2.2.2.2.2.2.2.2.1
theorem dX12_nextBack_22 : decode cX12_nextBack 22 = .ok (.ifCond .eq 21, 3) := dGR_41_c_1229.2.2.2.2.2.2.2.2.2.2.2
set_option maxRecDepth 100000 in
theorem dGR_41_c_1230 : (decode cX12_nextBack 25 = .ok (.aload_n 0, 1)) ∧ (decode cX12_nextBack 26 = .ok (.iload_n 3, 1)) ∧ (decode cX12_nextBack 27 = .ok (.invokevirtual 297, 3)) ∧ (decode cX12_nextBack 30 = .ok (.iconst 1, 1)) ∧ (decode cX12_nextBack 31 = .ok (.if_icmp .ne 12, 3)) ∧ (decode cX12_nextBack 34 = .ok (.aload_n 0, 1)) ∧ (decode cX12_nextBack 35 = .ok (.iload 5, 2)) ∧ (decode cX12_nextBack 37 = .ok (.invokevirtual 297, 3)) ∧ (decode cX12_nextBack 40 = .ok (.ifCond .eq 9, 3)) ∧ (decode cX12_nextBack 43 = .ok (.aload_n 0, 1)) ∧ (decode cX12_nextBack 44 = .ok (.iconst 1, 1)) ∧ (decode cX12_nextBack 45 = .ok (.invokevirtual 123, 3)) := by decide +kernel
theorem dX12_nextBack_25 : decode cX12_nextBack 25 = .ok (.aload_n 0, 1) := dGR_41_c_1230.1
theorem dX12_nextBack_26 : decode cX12_nextBack 26 = .ok (.iload_n 3, 1) := dGR_41_c_1230.2.1
theorem dX12_nextBack_27 : decode cX12_nextBack 27 = .ok (.invokevirtual 297, 3) := dGR_41_c_1230.2.2.1
theorem dX12_nextBack_30 : decode cX12_nextBack 30 = .ok (.iconst 1, 1) := dGR_41_c_1230.2.2.2.1
theorem dX12_nextBack_31 : decode cX12_nextBack 31 = .ok (.if_icmp .ne 12, 3) := dGR_41_c_1230.2.2.2.2.1
theorem dX12_nextBack_34 : decode cX12_nextBack 34 = .ok (.aload_n 0, 1) := dGR_41_c_1230.2.2.2.2.2.1
theorem dX12_nextBack_35 : decode cX12_nextBack 35 = .ok (.iload 5, 2) := dGR_41_c_1230.2.2.2.2.2.2.1
theorem dX12_nextBack_37 : decode cX12_nextBack 37 = .ok (.invokevirtual 297, 3) := dGR_41_c_1230.2.2.2.2.2.2.2.1
theorem dX12_nextBack_40 : decode cX12_nextBack 40 = .ok (.ifCond .eq 9, 3) := dGR_41_c_1230.2.2.2.2.2.2.2.2.1
theorem dX12_nextBack_43 : decode cX12_nextBack 43 = .ok (.aload_n 0, 1) := dGR_41_c_1230.2.2.2.2.2.2.2.2.2.1
theorem dX12_nextBack_44 : decode cX12_nextBack 44 = .ok (.iconst 1, 1) := dGR_41_c_1230.2.2.2.2.2.2.2.2.2.2.1
theorem dX12_nextBack_45 : decode cX12_nextBack 45 = .ok (.invokevirtual 123, 3) := dGR_41_c_1230.2.2.2.2.2.2.2.2.2.2.2
set_option maxRecDepth 100000 in
theorem dGR_41_c_1231 : (decode cX12_nextBack 48 = .ok (.ireturn, 1)) ∧ (decode cX12_nextBack 49 = .ok (.aload_n 0, 1)) ∧ (decode cX12_nextBack 50 = .ok (.iload_n 1, 1)) ∧ (decode cX12_nextBack 51 = .ok (.invokevirtual 422, 3)) ∧ (decode cX12_nextBack 54 = .ok (.ifCond .ne 10, 3)) ∧ (decode cX12_nextBack 57 = .ok (.aload_n 0, 1)) ∧ (decode cX12_nextBack 58 = .ok (.bipush 7, 2)) ∧ (decode cX12_nextBack 60 = .ok (.invokevirtual 123, 3)) ∧ (decode cX12_nextBack 63 = .ok (.ireturn, 1)) ∧ (decode cX12_nextBack 64 = .ok (.aload_n 0, 1)) ∧ (decode cX12_nextBack 65 = .ok (.iload_n 2, 1)) ∧ (decode cX12_nextBack 66 = .ok (.invokevirtual 425, 3)) := by decide +kernel
theorem dX12_nextBack_48 : decode cX12_nextBack 48 = .ok (.ireturn, 1) := dGR_41_c_1231.1
theorem dX12_nextBack_49 : decode cX12_nextBack 49 = .ok (.aload_n 0, 1) := dGR_41_c_1231.2.1
theorem dX12_nextBack_50 : decode cX12_nextBack 50 = .ok (.iload_n 1, 1) := dGR_41_c_1231.2.2.1
theorem dX12_nextBack_51 : decode cX12_nextBack 51 = .ok (.invokevirtual 422, 3) := dGR_41_c_1231.2.2.2.1
theorem dX12_nextBack_54 : decode cX12_nextBack 54 = .ok (.ifCond .ne 10, 3) := dGR_41_c_1231.2.2.2.2.1
theorem dX12_nextBack_57 : decode cX12_nextBack 57 = .ok (.aload_n 0, 1) := dGR_41_c_1231.2.2.2.2.2.1
theorem dX12_nextBack_58 : decode cX12_nextBack 58 = .ok (.bipush 7, 2) := dGR_41_c_1231.2.2.2.2.2.2.1
theorem dX12_nextBack_60 : decode cX12_nextBack 60 = .ok (.invokevirtual 123, 3) := dGR_41_c_1231.2.2.2.2.2.2.2.1
theorem dX12_nextBack_63 : decode cX12_nextBack 63 = .ok (.ireturn, 1) := dGR_41_c_1231.2.2.2.2.2.2.2.2.1
theorem dX12_nextBack_64 : decode cX12_nextBack 64 = .ok (.aload_n 0, 1) := dGR_41_c_1231.2.2.2.2.2.2.2.2.2.1
theorem dX12_nextBack_65 : decode cX12_nextBack 65 = .ok (.iload_n 2, 1) := dGR_41_c_1231.2.2.2.2.2.2.2.2.2.2.1
theorem dX12_nextBack_66 : decode cX12_nextBack 66 = .ok (.invokevirtual 425, 3) := dGR_41_c_1231.2.2.2.2.2.2.2.2.2.2.2
set_option maxRecDepth 100000 in
theorem dGR_41_c_1232 : (decode cX12_nextBack 69 = .ok (.ifCond .eq 12, 3)) ∧ (decode cX12_nextBack 72 = .ok (.aload_n 0, 1)) ∧ (decode cX12_nextBack 73 = .ok (.iload 4, 2)) ∧ (decode cX12_nextBack 75 = .ok (.invokevirtual 425, 3)) ∧ (decode cX12_nextBack 78 = .ok (.ifCond .ne 10, 3)) ∧ (decode cX12_nextBack 81 = .ok (.aload_n 0, 1)) ∧ (decode cX12_nextBack 82 = .ok (.bipush 6, 2)) ∧ (decode cX12_nextBack 84 = .ok (.invokevirtual 123, 3)) ∧ (decode cX12_nextBack 87 = .ok (.ireturn, 1)) ∧ (decode cX12_nextBack 88 = .ok (.aload_n 0, 1)) ∧ (decode cX12_nextBack 89 = .ok (.iload_n 1, 1)) ∧ (decode cX12_nextBack 90 = .ok (.aload_n 0, 1)) := by decide +kernel
theorem dX12_nextBack_69 : decode cX12_nextBack 69 = .ok (.ifCond .eq 12, 3) := dGR_41_c_1232.1
theorem dX12_nextBack_72 : decode cX12_nextBack 72 = .ok (.aload_n 0, 1) := dGR_41_c_1232.2.1
theorem dX12_nextBack_73 : decode cX12_nextBack 73 = .ok (.iload 4, 2) := dGR_41_c_1232.2.2.1
theorem dX12_nextBack_75 : decode cX12_nextBack 75 = .ok (.invokevirtual 425, 3) := dGR_41_c_1232.2.2.2.1
theorem dX12_nextBack_78 : decode cX12_nextBack 78 = .ok (.ifCond .ne 10, 3) := dGR_41_c_1232.2.2.2.2.1
theorem dX12_nextBack_81 : decode cX12_nextBack 81 = .ok (.aload_n 0, 1) := dGR_41_c_1232.2.2.2.2.2.1
theorem dX12_nextBack_82 : decode cX12_nextBack 82 = .ok (.bipush 6, 2) := dGR_41_c_1232.2.2.2.2.2.2.1
theorem dX12_nextBack_84 : decode cX12_nextBack 84 = .ok (.invokevirtual 123, 3) := dGR_41_c_1232.2.2.2.2.2.2.2.1
theorem dX12_nextBack_87 : decode cX12_nextBack 87 = .ok (.ireturn, 1) := dGR_41_c_1232.2.2.2.2.2.2.2.2.1
theorem dX12_nextBack_88 : decode cX12_nextBack 88 = .ok (.aload_n 0, 1) := dGR_41_c_1232.2.2.2.2.2.2.2.2.2.1
theorem dX12_nextBack_89 : decode cX12_nextBack 89 = .ok (.iload_n 1, 1) := dGR_41_c_1232.2.2.2.2.2.2.2.2.2.2.1
theorem dX12_nextBack_90 : decode cX12_nextBack 90 = .ok (.aload_n 0, 1) := dGR_41_c_1232.2.2.2.2.2.2.2.2.2.2.2
set_option maxRecDepth 100000 in
theorem dGR_41_c_1233 : (decode cX12_nextBack 91 = .ok (.getfield 77, 3)) ∧ (decode cX12_nextBack 94 = .ok (.iload_n 2, 1)) ∧ (decode cX12_nextBack 95 = .ok (.iaload, 1)) ∧ (decode cX12_nextBack 96 = .ok (.iload 5, 2)) ∧ (decode cX12_nextBack 98 = .ok (.iload_n 3, 1)) ∧ (decode cX12_nextBack 99 = .ok (.invokevirtual 335, 3)) ∧ (decode cX12_nextBack 102 = .ok (.istore 6, 2)) ∧ (decode cX12_nextBack 104 = .ok (.aload_n 0, 1)) ∧ (decode cX12_nextBack 105 = .ok (.aload_n 0, 1)) ∧ (decode cX12_nextBack 106 = .ok (.aload_n 0, 1)) ∧ (decode cX12_nextBack 107 = .ok (.getfield 74, 3)) ∧ (decode cX12_nextBack 110 = .ok (.iload 4, 2)) := by decide +kernel
theorem dX12_nextBack_91 : decode cX12_nextBack 91 = .ok (.getfield 77, 3) := dGR_41_c_1233.1
theorem dX12_nextBack_94 : decode cX12_nextBack 94 = .ok (.iload_n 2, 1) := dGR_41_c_1233.2.1
theorem dX12_nextBack_95 : decode cX12_nextBack 95 = .ok (.iaload, 1) := dGR_41_c_1233.2.2.1
theorem dX12_nextBack_96 : decode cX12_nextBack 96 = .ok (.iload 5, 2) := dGR_41_c_1233.2.2.2.1
theorem dX12_nextBack_98 : decode cX12_nextBack 98 = .ok (.iload_n 3, 1) := dGR_41_c_1233.2.2.2.2.1
theorem dX12_nextBack_99 : decode cX12_nextBack 99 = .ok (.invokevirtual 335, 3) := dGR_41_c_1233.2.2.2.2.2.1
theorem dX12_nextBack_102 : decode cX12_nextBack 102 = .ok (.istore 6, 2) := dGR_41_c_1233.2.2.2.2.2.2.1
theorem dX12_nextBack_104 : decode cX12_nextBack 104 = .ok (.aload_n 0, 1) := dGR_41_c_1233.2.2.2.2.2.2.2.1
theorem dX12_nextBack_105 : decode cX12_nextBack 105 = .ok (.aload_n 0, 1) := dGR_41_c_1233.2.2.2.2.2.2.2.2.1
theorem dX12_nextBack_106 : decode cX12_nextBack 106 = .ok (.aload_n 0, 1) := dGR_41_c_1233.2.2.2.2.2.2.2.2.2.1
theorem dX12_nextBack_107 : decode cX12_nextBack 107 = .ok (.getfield 74, 3) := dGR_41_c_1233.2.2.2.2.2.2.2.2.2.2.1
theorem dX12_nextBack_110 : decode cX12_nextBack 110 = .ok (.iload 4, 2) := dGR_41_c_1233.2.2.2.2.2.2.2.2.2.2.2
set_option maxRecDepth 100000 in
theorem dGR_41_c_1234 : (decode cX12_nextBack 112 = .ok (.iaload, 1)) ∧ (decode cX12_nextBack 113 = .ok (.iload 6, 2)) ∧ (decode cX12_nextBack 115 = .ok (.invokestatic 332, 3)) ∧ (decode cX12_nextBack 118 = .ok (.aload_n 0, 1)) ∧ (decode cX12_nextBack 119 = .ok (.getfield 77, 3)) ∧ (decode cX12_nextBack 122 = .ok (.iload 4, 2)) ∧ (decode cX12_nextBack 124 = .ok (.iaload, 1)) ∧ (decode cX12_nextBack 125 = .ok (.iload 6, 2)) ∧ (decode cX12_nextBack 127 = .ok (.invokestatic 326, 3)) ∧ (decode cX12_nextBack 130 = .ok (.invokevirtual 406, 3)) ∧ (decode cX12_nextBack 133 = .ok (.invokevirtual 127, 3)) ∧ (decode cX12_nextBack 136 = .ok (.ireturn, 1)) := by decide +kernel
theorem dX12_nextBack_112 : decode cX12_nextBack 112 = .ok (.iaload, 1) := dGR_41_c_1234.1
theorem dX12_nextBack_113 : decode cX12_nextBack 113 = .ok (.iload 6, 2) := dGR_41_c_1234.2.1
theorem dX12_nextBack_115 : decode cX12_nextBack 115 = .ok (.invokestatic 332, 3) := dGR_41_c_1234.2.2.1
theorem dX12_nextBack_118 : decode cX12_nextBack 118 = .ok (.aload_n 0, 1) := dGR_41_c_1234.2.2.2.1
theorem dX12_nextBack_119 : decode cX12_nextBack 119 = .ok (.getfield 77, 3) := dGR_41_c_1234.2.2.2.2.1
theorem dX12_nextBack_122 : decode cX12_nextBack 122 = .ok (.iload 4, 2) := dGR_41_c_1234.2.2.2.2.2.1
theorem dX12_nextBack_124 : decode cX12_nextBack 124 = .ok (.iaload, 1) := dGR_41_c_1234.2.2.2.2.2.2.1
theorem dX12_nextBack_125 : decode cX12_nextBack 125 = .ok (.iload 6, 2) := dGR_41_c_1234.2.2.2.2.2.2.2.1
theorem dX12_nextBack_127 : decode cX12_nextBack 127 = .ok (.invokestatic 326, 3) := dGR_41_c_1234.2.2.2.2.2.2.2.2.1
theorem dX12_nextBack_130 : decode cX12_nextBack 130 = .ok (.invokevirtual 406, 3) := dGR_41_c_1234.2.2.2.2.2.2.2.2.2.1
theorem dX12_nextBack_133 : decode cX12_nextBack 133 = .ok (.invokevirtual 127, 3) := dGR_41_c_1234.2.2.2.2.2.2.2.2.2.2.1
theorem dX12_nextBack_136 : decode cX12_nextBack 136 = .ok (.ireturn, 1) := dGR_41_c_1234.2.2.2.2.2.2.2.2.2.2.2
set_option maxRecDepth 100000 in
theorem dGR_41_c_1235 : (decode cX12_parting 0 = .ok (.aload_n 0, 1)) ∧ (decode cX12_parting 1 = .ok (.iload_n 1, 1)) ∧ (decode cX12_parting 2 = .ok (.iload_n 2, 1)) ∧ (decode cX12_parting 3 = .ok (.invokevirtual 313, 3)) ∧ (decode cX12_parting 6 = .ok (.ifCond .ne 9, 3)) ∧ (decode cX12_parting 9 = .ok (.aload_n 0, 1)) ∧ (decode cX12_parting 10 = .ok (.iconst 1, 1)) ∧ (decode cX12_parting 11 = .ok (.invokevirtual 123, 3)) ∧ (decode cX12_parting 14 = .ok (.ireturn, 1)) ∧ (decode cX12_parting 15 = .ok (.aload_n 0, 1)) ∧ (decode cX12_parting 16 = .ok (.iload_n 2, 1)) ∧ (decode cX12_parting 17 = .ok (.invokevirtual 422, 3)) := by decide +kernel
theorem dX12_parting_0 : decode cX12_parting 0 = .ok (.aload_n 0, 1) := dGR_41_c_1235.1
theorem dX12_parting_1 : decode cX12_parting 1 = .ok (.iload_n 1, 1) := dGR_41_c_1235.2.1
theorem dX12_parting_2 : decode cX12_parting 2 = .ok (.iload_n 2, 1) := dGR_41_c_1235.2.2.1
theorem dX12_parting_3 : decode cX12_parting 3 = .ok (.invokevirtual 313, 3) := dGR_41_c_1235.2.2.2.1
theorem dX12_parting_6 : decode cX12_parting 6 = .ok (.ifCond .ne 9, 3) := dGR_41_c_1235.2.2.2.2.1
theorem dX12_parting_9 : decode cX12_parting 9 = .ok (.aload_n 0, 1) := dGR_41_c_1235.2.2.2.2.2.1
theorem dX12_parting_10 : decode cX12_parting 10 = .ok (.iconst 1, 1) := dGR_41_c_1235.2.2.2.2.2.2.1
theorem dX12_parting_11 : decode cX12_parting 11 = .ok (.invokevirtual 123, 3) := dGR_41_c_1235.2.2.2.2.2.2.2.1
theorem dX12_parting_14 : decode cX12_parting 14 = .ok (.ireturn, 1) := dGR_41_c_1235.2.2.2.2.2.2.2.2.1
theorem dX12_parting_15 : decode cX12_parting 15 = .ok (.aload_n 0, 1) := dGR_41_c_1235.2.2.2.2.2.2.2.2.2.1
theorem dX12_parting_16 : decode cX12_parting 16 = .ok (.iload_n 2, 1) := dGR_41_c_1235.2.2.2.2.2.2.2.2.2.2.1
theorem dX12_parting_17 : decode cX12_parting 17 = .ok (.invokevirtual 422, 3) := dGR_41_c_1235.2.2.2.2.2.2.2.2.2.2.2
set_option maxRecDepth 100000 in
theorem dGR_41_c_1236 : (decode cX12_parting 20 = .ok (.ifCond .eq 16, 3)) ∧ (decode cX12_parting 23 = .ok (.aload_n 0, 1)) ∧ (decode cX12_parting 24 = .ok (.aload_n 0, 1)) ∧ (decode cX12_parting 25 = .ok (.iload_n 1, 1)) ∧ (decode cX12_parting 26 = .ok (.iload_n 2, 1)) ∧ (decode cX12_parting 27 = .ok (.invokevirtual 503, 3)) ∧ (decode cX12_parting 30 = .ok (.invokevirtual 294, 3)) ∧ (decode cX12_parting 33 = .ok (.goto 9, 3)) ∧ (decode cX12_parting 36 = .ok (.aload_n 0, 1)) ∧ (decode cX12_parting 37 = .ok (.bipush 7, 2)) ∧ (decode cX12_parting 39 = .ok (.invokevirtual 123, 3)) ∧ (decode cX12_parting 42 = .ok (.ireturn, 1)) := by decide +kernel
theorem dX12_parting_20 : decode cX12_parting 20 = .ok (.ifCond .eq 16, 3) := dGR_41_c_1236.1
theorem dX12_parting_23 : decode cX12_parting 23 = .ok (.aload_n 0, 1) := dGR_41_c_1236.2.1
theorem dX12_parting_24 : decode cX12_parting 24 = .ok (.aload_n 0, 1) := dGR_41_c_1236.2.2.1
theorem dX12_parting_25 : decode cX12_parting 25 = .ok (.iload_n 1, 1) := dGR_41_c_1236.2.2.2.1
theorem dX12_parting_26 : decode cX12_parting 26 = .ok (.iload_n 2, 1) := dGR_41_c_1236.2.2.2.2.1
theorem dX12_parting_27 : decode cX12_parting 27 = .ok (.invokevirtual 503, 3) := dGR_41_c_1236.2.2.2.2.2.1
theorem dX12_parting_30 : decode cX12_parting 30 = .ok (.invokevirtual 294, 3) := dGR_41_c_1236.2.2.2.2.2.2.1
theorem dX12_parting_33 : decode cX12_parting 33 = .ok (.goto 9, 3) := dGR_41_c_1236.2.2.2.2.2.2.2.1
theorem dX12_parting_36 : decode cX12_parting 36 = .ok (.aload_n 0, 1) := dGR_41_c_1236.2.2.2.2.2.2.2.2.1
theorem dX12_parting_37 : decode cX12_parting 37 = .ok (.bipush 7, 2) := dGR_41_c_1236.2.2.2.2.2.2.2.2.2.1
theorem dX12_parting_39 : decode cX12_parting 39 = .ok (.invokevirtual 123, 3) := dGR_41_c_1236.2.2.2.2.2.2.2.2.2.2.1
theorem dX12_parting_42 : decode cX12_parting 42 = .ok (.ireturn, 1) := dGR_41_c_1236.2.2.2.2.2.2.2.2.2.2.2
abbrev f_e_parting : List (Nat × Int) := [(64, 2), (64, 35), (64, 45), (72, -1), (81, -1), (82, -1), (86, -1), (87, -1), (88, -1)]
set_option maxHeartbeats 4000000 in
set_option maxRecDepth 100000 in
theorem e_parting (G : KG) (l : Launch) (M : Mem) (a1 : Int) (a2 : Int) (hI_M : Inv true M) (hpre : -2147483648 ≤ a1 ∧ a1 ≤ 2147483647 ∧ -2147483648 ≤ a2 ∧ a2 ≤ 2147483647) (hY : YY M) : KC true G l yX12_parting cX12_parting 3 (some .int) (6, 156) [vR G 163, vI a1, vI a2] M (fun A => kQi true G A (fun (r : Int) (N : Mem) => Inv true N ∧ Fr f_e_parting M N ∧ (r ≥ -2147483648 ∧ r ≤ 2147483647) ∧ (YY N))) := by
  refine kx_met (lo := [some (vR G 163), some (vI a1), some (vI a2)]) (by decide) (Nat.le_of_ble_eq_true rfl) rfl ?_
  intro X F hQ
  have hF_M : Fr f_e_parting M M := Fr.rf _ _
  have h_1 := Inv.g hI_M kd_164 rfl 0 (a := 0) (b := 2) (at_c 0 0 (o := 0) (lo := 0) (hi := 2) (by omega) (by decide) (by decide) (by decide)).1 (at_c 0 0 (o := 0) (lo := 0) (hi := 2) (by omega) (by decide) (by decide) (by decide)).2
  have h_2 := Inv.g hI_M kd_164 rfl 1 (a := 0) (b := 2) (at_c 1 0 (o := 1) (lo := 0) (hi := 2) (by omega) (by decide) (by decide) (by decide)).1 (at_c 1 0 (o := 1) (lo := 0) (hi := 2) (by omega) (by decide) (by decide) (by decide)).2
  have h_3 := Inv.g hI_M kd_164 rfl 2 (a := 0) (b := 2) (at_c 2 0 (o := 2) (lo := 0) (hi := 2) (by omega) (by decide) (by decide) (by decide)).1 (at_c 2 0 (o := 2) (lo := 0) (hi := 2) (by omega) (by decide) (by decide) (by decide)).2
  refine kx_aload_n 1 F 0 dX12_parting_0 rfl rfl rfl ?_
  refine kx_iload_n 2 F 1 dX12_parting_1 rfl rfl rfl ?_
  refine kx_iload_n 3 F 2 dX12_parting_2 rfl rfl rfl ?_
  refine kx_Vi 6 (ci := 0) F (As := [vI a1, vI a2]) (st := []) vd_X12_313 (c_X12_areTwo G l M a1 a2 hI_M (by omega)) kd_163 rfl rfl rfl ⟨by decide, by decide⟩ rfl rfl (Nat.le_of_ble_eq_true rfl) dX12_parting_3 rfl ?_
  intro r_4 N_5 q_6
  obtain ⟨rfl, q_6c⟩ := q_6
  rcases q_6c with q_6c | q_6c
  · refine kx_if_ne 9 F 15 dX12_parting_6 (by decide) rfl (by omega) (fun h_7 => ?_) (fun h_7 => (by exfalso; omega))
    refine kx_aload_n 16 F 0 dX12_parting_15 rfl rfl rfl ?_
    refine kx_iload_n 17 F 2 dX12_parting_16 rfl rfl rfl ?_
    refine kx_Vi 20 (ci := 0) F (As := [vI a2]) (st := []) vd_X12_422 (e_laysTable G l M a2 hI_M (by omega)) kd_163 rfl rfl rfl ⟨by decide, by decide⟩ rfl rfl (Nat.le_of_ble_eq_true rfl) dX12_parting_17 rfl ?_
    intro r_8 N_9 q_10
    obtain ⟨hI_N_9, hG_N_9, q_10c, hc_N_9⟩ := q_10
    have hF_N_9 : Fr f_e_parting M N_9 := Fr.c hF_M hG_N_9 rfl
    have h_11 := Inv.g hI_N_9 kd_163 rfl 35 (a := 0) (b := 41) rfl rfl
    rcases q_10c with q_10c | q_10c
    · refine kx_if_eq 23 F 36 dX12_parting_20 (by decide) rfl (by omega) (fun h_12 => (by exfalso; omega)) (fun h_12 => ?_)
      refine kx_aload_n 24 F 0 dX12_parting_23 rfl rfl rfl ?_
      refine kx_aload_n 25 F 0 dX12_parting_24 rfl rfl rfl ?_
      refine kx_iload_n 26 F 1 dX12_parting_25 rfl rfl rfl ?_
      refine kx_iload_n 27 F 2 dX12_parting_26 rfl rfl rfl ?_
      have hb_13 : Clo (N_9 164) a2 := by rw [show N_9 164 = M 164 from funext (fun j => by rw [Fr.e hG_N_9 kd_164 _ rfl])]; exact hc_N_9 (by omega)
      refine kx_Vi 30 (ci := 0) F (As := [vI a1, vI a2]) (st := [vR G 163]) vd_X12_503 (e_partingOf G l N_9 a1 a2 hI_N_9 (by omega) (YY.fr hY hG_N_9 rfl) hb_13) kd_163 rfl rfl rfl ⟨by decide, by decide⟩ rfl rfl (Nat.le_of_ble_eq_true rfl) dX12_parting_27 rfl ?_
      intro r_14 N_15 q_16
      obtain ⟨hI_N_15, hG_N_15, q_16c⟩ := q_16
      have hF_N_15 : Fr f_e_parting M N_15 := Fr.c hF_N_9 hG_N_15 rfl
      refine kx_Vi 33 (ci := 0) F (As := [vI r_14]) (st := []) vd_X12_294 (c_X12_orNone G l N_15 r_14 hI_N_15 (by omega)) kd_163 rfl rfl rfl ⟨by decide, by decide⟩ rfl rfl (Nat.le_of_ble_eq_true rfl) dX12_parting_30 rfl ?_
      intro r_17 N_18 q_19
      obtain ⟨hI_N_18, hG_N_18, q_19c⟩ := q_19
      have hF_N_18 : Fr f_e_parting M N_18 := Fr.c hF_N_15 hG_N_18 rfl
      refine kx_goto 42 F dX12_parting_33 (by decide) ?_
      exact kx_iret F hQ ⟨hI_N_18, hF_N_18, (by omega), (YY.fr (YY.fr (YY.fr hY hG_N_9 rfl) hG_N_15 rfl) hG_N_18 rfl)⟩ dX12_parting_42
    · refine kx_if_eq 23 F 36 dX12_parting_20 (by decide) rfl (by omega) (fun h_20 => ?_) (fun h_20 => (by exfalso; omega))
      refine kx_aload_n 37 F 0 dX12_parting_36 rfl rfl rfl ?_
      refine kx_bipush 39 F dX12_parting_37 (by decide) rfl ?_
      refine kx_Vi 42 (ci := 0) F (As := [vI 7]) (st := []) vd_X12_123 (c_X12_refuse G l N_9 7 hI_N_9 (by omega)) kd_163 rfl rfl rfl ⟨by decide, by decide⟩ rfl rfl (Nat.le_of_ble_eq_true rfl) dX12_parting_39 rfl ?_
      intro r_21 N_22 q_23
      obtain ⟨hI_N_22, hG_N_22, q_23c⟩ := q_23
      have hF_N_22 : Fr f_e_parting M N_22 := Fr.c hF_N_9 hG_N_22 rfl
      subst q_23c
      exact kx_iret F hQ ⟨hI_N_22, hF_N_22, (by omega), (YY.fr (YY.fr hY hG_N_9 rfl) hG_N_22 rfl)⟩ dX12_parting_42
  · refine kx_if_ne 9 F 15 dX12_parting_6 (by decide) rfl (by omega) (fun h_24 => (by exfalso; omega)) (fun h_24 => ?_)
    refine kx_aload_n 10 F 0 dX12_parting_9 rfl rfl rfl ?_
    refine kx_iconst 11 F dX12_parting_10 rfl ?_
    refine kx_Vi 14 (ci := 0) F (As := [vI 1]) (st := []) vd_X12_123 (c_X12_refuse G l M 1 hI_M (by omega)) kd_163 rfl rfl rfl ⟨by decide, by decide⟩ rfl rfl (Nat.le_of_ble_eq_true rfl) dX12_parting_11 rfl ?_
    intro r_25 N_26 q_27
    obtain ⟨hI_N_26, hG_N_26, q_27c⟩ := q_27
    have hF_N_26 : Fr f_e_parting M N_26 := Fr.c hF_M hG_N_26 rfl
    subst q_27c
    exact kx_iret F hQ ⟨hI_N_26, hF_N_26, (by omega), (YY.fr hY hG_N_26 rfl)⟩ dX12_parting_14
set_option maxRecDepth 100000 in
theorem dGR_41_c_1237 : (decode cX12_partingAt 0 = .ok (.aload_n 0, 1)) ∧ (decode cX12_partingAt 1 = .ok (.iload_n 1, 1)) ∧ (decode cX12_partingAt 2 = .ok (.iload_n 2, 1)) ∧ (decode cX12_partingAt 3 = .ok (.invokevirtual 313, 3)) ∧ (decode cX12_partingAt 6 = .ok (.ifCond .eq 7, 3)) ∧ (decode cX12_partingAt 9 = .ok (.iload_n 3, 1)) ∧ (decode cX12_partingAt 10 = .ok (.ifCond .ge 9, 3)) ∧ (decode cX12_partingAt 13 = .ok (.aload_n 0, 1)) ∧ (decode cX12_partingAt 14 = .ok (.iconst 1, 1)) ∧ (decode cX12_partingAt 15 = .ok (.invokevirtual 123, 3)) ∧ (decode cX12_partingAt 18 = .ok (.ireturn, 1)) ∧ (decode cX12_partingAt 19 = .ok (.aload_n 0, 1)) := by decide +kernel
theorem dX12_partingAt_0 : decode cX12_partingAt 0 = .ok (.aload_n 0, 1) := dGR_41_c_1237.1
theorem dX12_partingAt_1 : decode cX12_partingAt 1 = .ok (.iload_n 1, 1) := dGR_41_c_1237.2.1
theorem dX12_partingAt_2 : decode cX12_partingAt 2 = .ok (.iload_n 2, 1) := dGR_41_c_1237.2.2.1
theorem dX12_partingAt_3 : decode cX12_partingAt 3 = .ok (.invokevirtual 313, 3) := dGR_41_c_1237.2.2.2.1
theorem dX12_partingAt_6 : decode cX12_partingAt 6 = .ok (.ifCond .eq 7, 3) := dGR_41_c_1237.2.2.2.2.1
theorem dX12_partingAt_9 : decode cX12_partingAt 9 = .ok (.iload_n 3, 1) := dGR_41_c_1237.2.2.2.2.2.1
theorem dX12_partingAt_10 : decode cX12_partingAt 10 = .ok (.ifCond .ge 9, 3) := dGR_41_c_1237.2.2.2.2.2.2.1
theorem dX12_partingAt_13 : decode cX12_partingAt 13 = .ok (.aload_n 0, 1) := dGR_41_c_1237.2.2.2.2.2.2.2.1
theorem dX12_partingAt_14 : decode cX12_partingAt 14 = .ok (.iconst 1, 1) := dGR_41_c_1237.2.2.2.2.2.2.2.2.1
theorem dX12_partingAt_15 : decode cX12_partingAt 15 = .ok (.invokevirtual 123, 3) := dGR_41_c_1237.2.2.2.2.2.2.2.2.2.1
theorem dX12_partingAt_18 : decode cX12_partingAt 18 = .ok (.ireturn, 1) := dGR_41_c_1237.2.2.2.2.2.2.2.2.2.2.1
theorem dX12_partingAt_19 : decode cX12_partingAt 19 = .ok (.aload_n 0, 1) := dGR_41_c_1237.2.2.2.2.2.2.2.2.2.2.2
set_option maxRecDepth 100000 in
theorem dGR_41_c_1238 : (decode cX12_partingAt 20 = .ok (.iload_n 2, 1)) ∧ (decode cX12_partingAt 21 = .ok (.invokevirtual 422, 3)) ∧ (decode cX12_partingAt 24 = .ok (.ifCond .eq 20, 3)) ∧ (decode cX12_partingAt 27 = .ok (.aload_n 0, 1)) ∧ (decode cX12_partingAt 28 = .ok (.iload_n 1, 1)) ∧ (decode cX12_partingAt 29 = .ok (.iload_n 2, 1)) ∧ (decode cX12_partingAt 30 = .ok (.aload_n 0, 1)) ∧ (decode cX12_partingAt 31 = .ok (.iload_n 1, 1)) ∧ (decode cX12_partingAt 32 = .ok (.iload_n 2, 1)) ∧ (decode cX12_partingAt 33 = .ok (.invokevirtual 503, 3)) ∧ (decode cX12_partingAt 36 = .ok (.iconst 0, 1)) ∧ (decode cX12_partingAt 37 = .ok (.iload_n 3, 1)) := by decide +kernel
theorem dX12_partingAt_20 : decode cX12_partingAt 20 = .ok (.iload_n 2, 1) := dGR_41_c_1238.1
theorem dX12_partingAt_21 : decode cX12_partingAt 21 = .ok (.invokevirtual 422, 3) := dGR_41_c_1238.2.1
theorem dX12_partingAt_24 : decode cX12_partingAt 24 = .ok (.ifCond .eq 20, 3) := dGR_41_c_1238.2.2.1
theorem dX12_partingAt_27 : decode cX12_partingAt 27 = .ok (.aload_n 0, 1) := dGR_41_c_1238.2.2.2.1
theorem dX12_partingAt_28 : decode cX12_partingAt 28 = .ok (.iload_n 1, 1) := dGR_41_c_1238.2.2.2.2.1
theorem dX12_partingAt_29 : decode cX12_partingAt 29 = .ok (.iload_n 2, 1) := dGR_41_c_1238.2.2.2.2.2.1
theorem dX12_partingAt_30 : decode cX12_partingAt 30 = .ok (.aload_n 0, 1) := dGR_41_c_1238.2.2.2.2.2.2.1
theorem dX12_partingAt_31 : decode cX12_partingAt 31 = .ok (.iload_n 1, 1) := dGR_41_c_1238.2.2.2.2.2.2.2.1
theorem dX12_partingAt_32 : decode cX12_partingAt 32 = .ok (.iload_n 2, 1) := dGR_41_c_1238.2.2.2.2.2.2.2.2.1
theorem dX12_partingAt_33 : decode cX12_partingAt 33 = .ok (.invokevirtual 503, 3) := dGR_41_c_1238.2.2.2.2.2.2.2.2.2.1
theorem dX12_partingAt_36 : decode cX12_partingAt 36 = .ok (.iconst 0, 1) := dGR_41_c_1238.2.2.2.2.2.2.2.2.2.2.1
theorem dX12_partingAt_37 : decode cX12_partingAt 37 = .ok (.iload_n 3, 1) := dGR_41_c_1238.2.2.2.2.2.2.2.2.2.2.2
set_option maxRecDepth 100000 in
theorem dGR_41_c_1239 : (decode cX12_partingAt 38 = .ok (.invokevirtual 499, 3)) ∧ (decode cX12_partingAt 41 = .ok (.goto 9, 3)) ∧ (decode cX12_partingAt 44 = .ok (.aload_n 0, 1)) ∧ (decode cX12_partingAt 45 = .ok (.bipush 7, 2)) ∧ (decode cX12_partingAt 47 = .ok (.invokevirtual 123, 3)) ∧ (decode cX12_partingAt 50 = .ok (.ireturn, 1)) := by decide +kernel
theorem dX12_partingAt_38 : decode cX12_partingAt 38 = .ok (.invokevirtual 499, 3) := dGR_41_c_1239.1
theorem dX12_partingAt_41 : decode cX12_partingAt 41 = .ok (.goto 9, 3) := dGR_41_c_1239.2.1
theorem dX12_partingAt_44 : decode cX12_partingAt 44 = .ok (.aload_n 0, 1) := dGR_41_c_1239.2.2.1
theorem dX12_partingAt_45 : decode cX12_partingAt 45 = .ok (.bipush 7, 2) := dGR_41_c_1239.2.2.2.1
theorem dX12_partingAt_47 : decode cX12_partingAt 47 = .ok (.invokevirtual 123, 3) := dGR_41_c_1239.2.2.2.2.1
theorem dX12_partingAt_50 : decode cX12_partingAt 50 = .ok (.ireturn, 1) := dGR_41_c_1239.2.2.2.2.2
abbrev f_e_partingAt : List (Nat × Int) := [(64, 2), (64, 35), (64, 45), (64, 48), (72, -1), (73, -1), (74, -1), (75, -1), (76, -1), (81, -1), (82, -1), (86, -1), (87, -1), (88, -1), (89, -1), (90, -1)]
set_option maxHeartbeats 4000000 in
set_option maxRecDepth 100000 in
theorem e_partingAt (G : KG) (l : Launch) (M : Mem) (a1 : Int) (a2 : Int) (a3 : Int) (hI_M : Inv true M) (hpre : -2147483648 ≤ a1 ∧ a1 ≤ 2147483647 ∧ -2147483648 ≤ a2 ∧ a2 ≤ 2147483647 ∧ -2147483648 ≤ a3 ∧ a3 ≤ 2147483647) (hY : YY M) : KC true G l yX12_partingAt cX12_partingAt 4 (some .int) (6, 157) [vR G 163, vI a1, vI a2, vI a3] M (fun A => kQi true G A (fun (r : Int) (N : Mem) => Inv true N ∧ Fr f_e_partingAt M N ∧ (r ≥ -1 ∧ r ≤ 5) ∧ (YY N))) := by
  refine kx_met (lo := [some (vR G 163), some (vI a1), some (vI a2), some (vI a3)]) (by decide) (Nat.le_of_ble_eq_true rfl) rfl ?_
  intro X F hQ
  have hF_M : Fr f_e_partingAt M M := Fr.rf _ _
  have h_1 := Inv.g hI_M kd_164 rfl 0 (a := 0) (b := 2) (at_c 0 0 (o := 0) (lo := 0) (hi := 2) (by omega) (by decide) (by decide) (by decide)).1 (at_c 0 0 (o := 0) (lo := 0) (hi := 2) (by omega) (by decide) (by decide) (by decide)).2
  have h_2 := Inv.g hI_M kd_164 rfl 1 (a := 0) (b := 2) (at_c 1 0 (o := 1) (lo := 0) (hi := 2) (by omega) (by decide) (by decide) (by decide)).1 (at_c 1 0 (o := 1) (lo := 0) (hi := 2) (by omega) (by decide) (by decide) (by decide)).2
  have h_3 := Inv.g hI_M kd_164 rfl 2 (a := 0) (b := 2) (at_c 2 0 (o := 2) (lo := 0) (hi := 2) (by omega) (by decide) (by decide) (by decide)).1 (at_c 2 0 (o := 2) (lo := 0) (hi := 2) (by omega) (by decide) (by decide) (by decide)).2
  refine kx_aload_n 1 F 0 dX12_partingAt_0 rfl rfl rfl ?_
  refine kx_iload_n 2 F 1 dX12_partingAt_1 rfl rfl rfl ?_
  refine kx_iload_n 3 F 2 dX12_partingAt_2 rfl rfl rfl ?_
  refine kx_Vi 6 (ci := 0) F (As := [vI a1, vI a2]) (st := []) vd_X12_313 (c_X12_areTwo G l M a1 a2 hI_M (by omega)) kd_163 rfl rfl rfl ⟨by decide, by decide⟩ rfl rfl (Nat.le_of_ble_eq_true rfl) dX12_partingAt_3 rfl ?_
  intro r_4 N_5 q_6
  obtain ⟨rfl, q_6c⟩ := q_6
  rcases q_6c with q_6c | q_6c
  · refine kx_if_eq 9 F 13 dX12_partingAt_6 (by decide) rfl (by omega) (fun h_7 => (by exfalso; omega)) (fun h_7 => ?_)
    refine kx_iload_n 10 F 3 dX12_partingAt_9 rfl rfl rfl ?_
    refine kx_if_ge 13 F 19 dX12_partingAt_10 (by decide) rfl (by omega) (fun h_8 => ?_) (fun h_8 => ?_)
    · refine kx_aload_n 20 F 0 dX12_partingAt_19 rfl rfl rfl ?_
      refine kx_iload_n 21 F 2 dX12_partingAt_20 rfl rfl rfl ?_
      refine kx_Vi 24 (ci := 0) F (As := [vI a2]) (st := []) vd_X12_422 (e_laysTable G l M a2 hI_M (by omega)) kd_163 rfl rfl rfl ⟨by decide, by decide⟩ rfl rfl (Nat.le_of_ble_eq_true rfl) dX12_partingAt_21 rfl ?_
      intro r_9 N_10 q_11
      obtain ⟨hI_N_10, hG_N_10, q_11c, hc_N_10⟩ := q_11
      have hF_N_10 : Fr f_e_partingAt M N_10 := Fr.c hF_M hG_N_10 rfl
      have h_12 := Inv.g hI_N_10 kd_163 rfl 35 (a := 0) (b := 41) rfl rfl
      rcases q_11c with q_11c | q_11c
      · refine kx_if_eq 27 F 44 dX12_partingAt_24 (by decide) rfl (by omega) (fun h_13 => (by exfalso; omega)) (fun h_13 => ?_)
        refine kx_aload_n 28 F 0 dX12_partingAt_27 rfl rfl rfl ?_
        refine kx_iload_n 29 F 1 dX12_partingAt_28 rfl rfl rfl ?_
        refine kx_iload_n 30 F 2 dX12_partingAt_29 rfl rfl rfl ?_
        refine kx_aload_n 31 F 0 dX12_partingAt_30 rfl rfl rfl ?_
        refine kx_iload_n 32 F 1 dX12_partingAt_31 rfl rfl rfl ?_
        refine kx_iload_n 33 F 2 dX12_partingAt_32 rfl rfl rfl ?_
        have hb_14 : Clo (N_10 164) a2 := by rw [show N_10 164 = M 164 from funext (fun j => by rw [Fr.e hG_N_10 kd_164 _ rfl])]; exact hc_N_10 (by omega)
        refine kx_Vi 36 (ci := 0) F (As := [vI a1, vI a2]) (st := [vI a2, vI a1, vR G 163]) vd_X12_503 (e_partingOf G l N_10 a1 a2 hI_N_10 (by omega) (YY.fr hY hG_N_10 rfl) hb_14) kd_163 rfl rfl rfl ⟨by decide, by decide⟩ rfl rfl (Nat.le_of_ble_eq_true rfl) dX12_partingAt_33 rfl ?_
        intro r_15 N_16 q_17
        obtain ⟨hI_N_16, hG_N_16, q_17c⟩ := q_17
        have hF_N_16 : Fr f_e_partingAt M N_16 := Fr.c hF_N_10 hG_N_16 rfl
        refine kx_iconst 37 F dX12_partingAt_36 rfl ?_
        refine kx_iload_n 38 F 3 dX12_partingAt_37 rfl rfl rfl ?_
        refine kx_Vi 41 (ci := 0) F (As := [vI a1, vI a2, vI r_15, vI 0, vI a3]) (st := []) vd_X12_499 (c_X12_wordAt G l N_16 a1 a2 r_15 0 a3 hI_N_16 (by omega)) kd_163 rfl rfl rfl ⟨by decide, by decide⟩ rfl rfl (Nat.le_of_ble_eq_true rfl) dX12_partingAt_38 rfl ?_
        intro r_18 N_19 q_20
        obtain ⟨hI_N_19, hG_N_19, q_20c⟩ := q_20
        have hF_N_19 : Fr f_e_partingAt M N_19 := Fr.c hF_N_16 hG_N_19 rfl
        refine kx_goto 50 F dX12_partingAt_41 (by decide) ?_
        exact kx_iret F hQ ⟨hI_N_19, hF_N_19, (by omega), (YY.fr (YY.fr (YY.fr hY hG_N_10 rfl) hG_N_16 rfl) hG_N_19 rfl)⟩ dX12_partingAt_50
      · refine kx_if_eq 27 F 44 dX12_partingAt_24 (by decide) rfl (by omega) (fun h_21 => ?_) (fun h_21 => (by exfalso; omega))
        refine kx_aload_n 45 F 0 dX12_partingAt_44 rfl rfl rfl ?_
        refine kx_bipush 47 F dX12_partingAt_45 (by decide) rfl ?_
        refine kx_Vi 50 (ci := 0) F (As := [vI 7]) (st := []) vd_X12_123 (c_X12_refuse G l N_10 7 hI_N_10 (by omega)) kd_163 rfl rfl rfl ⟨by decide, by decide⟩ rfl rfl (Nat.le_of_ble_eq_true rfl) dX12_partingAt_47 rfl ?_
        intro r_22 N_23 q_24
        obtain ⟨hI_N_23, hG_N_23, q_24c⟩ := q_24
        have hF_N_23 : Fr f_e_partingAt M N_23 := Fr.c hF_N_10 hG_N_23 rfl
        subst q_24c
        exact kx_iret F hQ ⟨hI_N_23, hF_N_23, (by omega), (YY.fr (YY.fr hY hG_N_10 rfl) hG_N_23 rfl)⟩ dX12_partingAt_50
    · refine kx_aload_n 14 F 0 dX12_partingAt_13 rfl rfl rfl ?_
      refine kx_iconst 15 F dX12_partingAt_14 rfl ?_
      refine kx_Vi 18 (ci := 0) F (As := [vI 1]) (st := []) vd_X12_123 (c_X12_refuse G l M 1 hI_M (by omega)) kd_163 rfl rfl rfl ⟨by decide, by decide⟩ rfl rfl (Nat.le_of_ble_eq_true rfl) dX12_partingAt_15 rfl ?_
      intro r_25 N_26 q_27
      obtain ⟨hI_N_26, hG_N_26, q_27c⟩ := q_27
      have hF_N_26 : Fr f_e_partingAt M N_26 := Fr.c hF_M hG_N_26 rfl
      subst q_27c
      exact kx_iret F hQ ⟨hI_N_26, hF_N_26, (by omega), (YY.fr hY hG_N_26 rfl)⟩ dX12_partingAt_18
  · refine kx_if_eq 9 F 13 dX12_partingAt_6 (by decide) rfl (by omega) (fun h_28 => ?_) (fun h_28 => (by exfalso; omega))
    refine kx_aload_n 14 F 0 dX12_partingAt_13 rfl rfl rfl ?_
    refine kx_iconst 15 F dX12_partingAt_14 rfl ?_
    refine kx_Vi 18 (ci := 0) F (As := [vI 1]) (st := []) vd_X12_123 (c_X12_refuse G l M 1 hI_M (by omega)) kd_163 rfl rfl rfl ⟨by decide, by decide⟩ rfl rfl (Nat.le_of_ble_eq_true rfl) dX12_partingAt_15 rfl ?_
    intro r_29 N_30 q_31
    obtain ⟨hI_N_30, hG_N_30, q_31c⟩ := q_31
    have hF_N_30 : Fr f_e_partingAt M N_30 := Fr.c hF_M hG_N_30 rfl
    subst q_31c
    exact kx_iret F hQ ⟨hI_N_30, hF_N_30, (by omega), (YY.fr hY hG_N_30 rfl)⟩ dX12_partingAt_18
set_option maxRecDepth 100000 in
theorem dGR_41_c_1240 : (decode cX12_missing 0 = .ok (.aload_n 0, 1)) ∧ (decode cX12_missing 1 = .ok (.iload_n 1, 1)) ∧ (decode cX12_missing 2 = .ok (.invokevirtual 282, 3)) ∧ (decode cX12_missing 5 = .ok (.ifCond .ne 9, 3)) ∧ (decode cX12_missing 8 = .ok (.aload_n 0, 1)) ∧ (decode cX12_missing 9 = .ok (.iconst 1, 1)) ∧ (decode cX12_missing 10 = .ok (.invokevirtual 123, 3)) ∧ (decode cX12_missing 13 = .ok (.ireturn, 1)) ∧ (decode cX12_missing 14 = .ok (.aload_n 0, 1)) ∧ (decode cX12_missing 15 = .ok (.iload_n 1, 1)) ∧ (decode cX12_missing 16 = .ok (.invokevirtual 422, 3)) ∧ (decode cX12_missing 19 = .ok (.ifCond .eq 16, 3)) := by decide +kernel
theorem dX12_missing_0 : decode cX12_missing 0 = .ok (.aload_n 0, 1) := dGR_41_c_1240.1
theorem dX12_missing_1 : decode cX12_missing 1 = .ok (.iload_n 1, 1) := dGR_41_c_1240.2.1
theorem dX12_missing_2 : decode cX12_missing 2 = .ok (.invokevirtual 282, 3) := dGR_41_c_1240.2.2.1
theorem dX12_missing_5 : decode cX12_missing 5 = .ok (.ifCond .ne 9, 3) := dGR_41_c_1240.2.2.2.1
theorem dX12_missing_8 : decode cX12_missing 8 = .ok (.aload_n 0, 1) := dGR_41_c_1240.2.2.2.2.1
theorem dX12_missing_9 : decode cX12_missing 9 = .ok (.iconst 1, 1) := dGR_41_c_1240.2.2.2.2.2.1
theorem dX12_missing_10 : decode cX12_missing 10 = .ok (.invokevirtual 123, 3) := dGR_41_c_1240.2.2.2.2.2.2.1
theorem dX12_missing_13 : decode cX12_missing 13 = .ok (.ireturn, 1) := dGR_41_c_1240.2.2.2.2.2.2.2.1
theorem dX12_missing_14 : decode cX12_missing 14 = .ok (.aload_n 0, 1) := dGR_41_c_1240.2.2.2.2.2.2.2.2.1
theorem dX12_missing_15 : decode cX12_missing 15 = .ok (.iload_n 1, 1) := dGR_41_c_1240.2.2.2.2.2.2.2.2.2.1
theorem dX12_missing_16 : decode cX12_missing 16 = .ok (.invokevirtual 422, 3) := dGR_41_c_1240.2.2.2.2.2.2.2.2.2.2.1
theorem dX12_missing_19 : decode cX12_missing 19 = .ok (.ifCond .eq 16, 3) := dGR_41_c_1240.2.2.2.2.2.2.2.2.2.2.2
set_option maxRecDepth 100000 in
theorem dGR_41_c_1241 : (decode cX12_missing 22 = .ok (.aload_n 0, 1)) ∧ (decode cX12_missing 23 = .ok (.aload_n 0, 1)) ∧ (decode cX12_missing 24 = .ok (.iconst 2, 1)) ∧ (decode cX12_missing 25 = .ok (.iload_n 1, 1)) ∧ (decode cX12_missing 26 = .ok (.invokevirtual 503, 3)) ∧ (decode cX12_missing 29 = .ok (.invokevirtual 294, 3)) ∧ (decode cX12_missing 32 = .ok (.goto 9, 3)) ∧ (decode cX12_missing 35 = .ok (.aload_n 0, 1)) ∧ (decode cX12_missing 36 = .ok (.bipush 7, 2)) ∧ (decode cX12_missing 38 = .ok (.invokevirtual 123, 3)) ∧ (decode cX12_missing 41 = .ok (.ireturn, 1)) := by decide +kernel
theorem dX12_missing_22 : decode cX12_missing 22 = .ok (.aload_n 0, 1) := dGR_41_c_1241.1
theorem dX12_missing_23 : decode cX12_missing 23 = .ok (.aload_n 0, 1) := dGR_41_c_1241.2.1
theorem dX12_missing_24 : decode cX12_missing 24 = .ok (.iconst 2, 1) := dGR_41_c_1241.2.2.1
theorem dX12_missing_25 : decode cX12_missing 25 = .ok (.iload_n 1, 1) := dGR_41_c_1241.2.2.2.1
theorem dX12_missing_26 : decode cX12_missing 26 = .ok (.invokevirtual 503, 3) := dGR_41_c_1241.2.2.2.2.1
theorem dX12_missing_29 : decode cX12_missing 29 = .ok (.invokevirtual 294, 3) := dGR_41_c_1241.2.2.2.2.2.1
theorem dX12_missing_32 : decode cX12_missing 32 = .ok (.goto 9, 3) := dGR_41_c_1241.2.2.2.2.2.2.1
theorem dX12_missing_35 : decode cX12_missing 35 = .ok (.aload_n 0, 1) := dGR_41_c_1241.2.2.2.2.2.2.2.1
theorem dX12_missing_36 : decode cX12_missing 36 = .ok (.bipush 7, 2) := dGR_41_c_1241.2.2.2.2.2.2.2.2.1
theorem dX12_missing_38 : decode cX12_missing 38 = .ok (.invokevirtual 123, 3) := dGR_41_c_1241.2.2.2.2.2.2.2.2.2.1
theorem dX12_missing_41 : decode cX12_missing 41 = .ok (.ireturn, 1) := dGR_41_c_1241.2.2.2.2.2.2.2.2.2.2
abbrev f_e_missing : List (Nat × Int) := [(64, 2), (64, 35), (64, 45), (72, -1), (81, -1), (82, -1), (86, -1), (87, -1), (88, -1)]
set_option maxHeartbeats 4000000 in
set_option maxRecDepth 100000 in
theorem e_missing (G : KG) (l : Launch) (M : Mem) (a1 : Int) (hI_M : Inv true M) (hpre : -2147483648 ≤ a1 ∧ a1 ≤ 2147483647) (hY : YY M) : KC true G l yX12_missing cX12_missing 2 (some .int) (6, 156) [vR G 163, vI a1] M (fun A => kQi true G A (fun (r : Int) (N : Mem) => Inv true N ∧ Fr f_e_missing M N ∧ (r ≥ -2147483648 ∧ r ≤ 2147483647) ∧ (YY N))) := by
  refine kx_met (lo := [some (vR G 163), some (vI a1)]) (by decide) (Nat.le_of_ble_eq_true rfl) rfl ?_
  intro X F hQ
  have hF_M : Fr f_e_missing M M := Fr.rf _ _
  have h_1 := Inv.g hI_M kd_164 rfl 0 (a := 0) (b := 2) (at_c 0 0 (o := 0) (lo := 0) (hi := 2) (by omega) (by decide) (by decide) (by decide)).1 (at_c 0 0 (o := 0) (lo := 0) (hi := 2) (by omega) (by decide) (by decide) (by decide)).2
  have h_2 := Inv.g hI_M kd_164 rfl 1 (a := 0) (b := 2) (at_c 1 0 (o := 1) (lo := 0) (hi := 2) (by omega) (by decide) (by decide) (by decide)).1 (at_c 1 0 (o := 1) (lo := 0) (hi := 2) (by omega) (by decide) (by decide) (by decide)).2
  have h_3 := Inv.g hI_M kd_164 rfl 2 (a := 0) (b := 2) (at_c 2 0 (o := 2) (lo := 0) (hi := 2) (by omega) (by decide) (by decide) (by decide)).1 (at_c 2 0 (o := 2) (lo := 0) (hi := 2) (by omega) (by decide) (by decide) (by decide)).2
  refine kx_aload_n 1 F 0 dX12_missing_0 rfl rfl rfl ?_
  refine kx_iload_n 2 F 1 dX12_missing_1 rfl rfl rfl ?_
  refine kx_Vi 5 (ci := 0) F (As := [vI a1]) (st := []) vd_X12_282 (c_X12_isAutomaton G l M a1 hI_M (by omega)) kd_163 rfl rfl rfl ⟨by decide, by decide⟩ rfl rfl (Nat.le_of_ble_eq_true rfl) dX12_missing_2 rfl ?_
  intro r_4 N_5 q_6
  obtain ⟨rfl, q_6c⟩ := q_6
  rcases q_6c with q_6c | q_6c
  · refine kx_if_ne 8 F 14 dX12_missing_5 (by decide) rfl (by omega) (fun h_7 => ?_) (fun h_7 => (by exfalso; omega))
    refine kx_aload_n 15 F 0 dX12_missing_14 rfl rfl rfl ?_
    refine kx_iload_n 16 F 1 dX12_missing_15 rfl rfl rfl ?_
    refine kx_Vi 19 (ci := 0) F (As := [vI a1]) (st := []) vd_X12_422 (e_laysTable G l M a1 hI_M (by omega)) kd_163 rfl rfl rfl ⟨by decide, by decide⟩ rfl rfl (Nat.le_of_ble_eq_true rfl) dX12_missing_16 rfl ?_
    intro r_8 N_9 q_10
    obtain ⟨hI_N_9, hG_N_9, q_10c, hc_N_9⟩ := q_10
    have hF_N_9 : Fr f_e_missing M N_9 := Fr.c hF_M hG_N_9 rfl
    have h_11 := Inv.g hI_N_9 kd_163 rfl 35 (a := 0) (b := 41) rfl rfl
    rcases q_10c with q_10c | q_10c
    · refine kx_if_eq 22 F 35 dX12_missing_19 (by decide) rfl (by omega) (fun h_12 => (by exfalso; omega)) (fun h_12 => ?_)
      refine kx_aload_n 23 F 0 dX12_missing_22 rfl rfl rfl ?_
      refine kx_aload_n 24 F 0 dX12_missing_23 rfl rfl rfl ?_
      refine kx_iconst 25 F dX12_missing_24 rfl ?_
      refine kx_iload_n 26 F 1 dX12_missing_25 rfl rfl rfl ?_
      have hb_13 : Clo (N_9 164) a1 := by rw [show N_9 164 = M 164 from funext (fun j => by rw [Fr.e hG_N_9 kd_164 _ rfl])]; exact hc_N_9 (by omega)
      refine kx_Vi 29 (ci := 0) F (As := [vI 2, vI a1]) (st := [vR G 163]) vd_X12_503 (e_partingOf G l N_9 2 a1 hI_N_9 (by omega) (YY.fr hY hG_N_9 rfl) hb_13) kd_163 rfl rfl rfl ⟨by decide, by decide⟩ rfl rfl (Nat.le_of_ble_eq_true rfl) dX12_missing_26 rfl ?_
      intro r_14 N_15 q_16
      obtain ⟨hI_N_15, hG_N_15, q_16c⟩ := q_16
      have hF_N_15 : Fr f_e_missing M N_15 := Fr.c hF_N_9 hG_N_15 rfl
      refine kx_Vi 32 (ci := 0) F (As := [vI r_14]) (st := []) vd_X12_294 (c_X12_orNone G l N_15 r_14 hI_N_15 (by omega)) kd_163 rfl rfl rfl ⟨by decide, by decide⟩ rfl rfl (Nat.le_of_ble_eq_true rfl) dX12_missing_29 rfl ?_
      intro r_17 N_18 q_19
      obtain ⟨hI_N_18, hG_N_18, q_19c⟩ := q_19
      have hF_N_18 : Fr f_e_missing M N_18 := Fr.c hF_N_15 hG_N_18 rfl
      refine kx_goto 41 F dX12_missing_32 (by decide) ?_
      exact kx_iret F hQ ⟨hI_N_18, hF_N_18, (by omega), (YY.fr (YY.fr (YY.fr hY hG_N_9 rfl) hG_N_15 rfl) hG_N_18 rfl)⟩ dX12_missing_41
    · refine kx_if_eq 22 F 35 dX12_missing_19 (by decide) rfl (by omega) (fun h_20 => ?_) (fun h_20 => (by exfalso; omega))
      refine kx_aload_n 36 F 0 dX12_missing_35 rfl rfl rfl ?_
      refine kx_bipush 38 F dX12_missing_36 (by decide) rfl ?_
      refine kx_Vi 41 (ci := 0) F (As := [vI 7]) (st := []) vd_X12_123 (c_X12_refuse G l N_9 7 hI_N_9 (by omega)) kd_163 rfl rfl rfl ⟨by decide, by decide⟩ rfl rfl (Nat.le_of_ble_eq_true rfl) dX12_missing_38 rfl ?_
      intro r_21 N_22 q_23
      obtain ⟨hI_N_22, hG_N_22, q_23c⟩ := q_23
      have hF_N_22 : Fr f_e_missing M N_22 := Fr.c hF_N_9 hG_N_22 rfl
      subst q_23c
      exact kx_iret F hQ ⟨hI_N_22, hF_N_22, (by omega), (YY.fr (YY.fr hY hG_N_9 rfl) hG_N_22 rfl)⟩ dX12_missing_41
  · refine kx_if_ne 8 F 14 dX12_missing_5 (by decide) rfl (by omega) (fun h_24 => (by exfalso; omega)) (fun h_24 => ?_)
    refine kx_aload_n 9 F 0 dX12_missing_8 rfl rfl rfl ?_
    refine kx_iconst 10 F dX12_missing_9 rfl ?_
    refine kx_Vi 13 (ci := 0) F (As := [vI 1]) (st := []) vd_X12_123 (c_X12_refuse G l M 1 hI_M (by omega)) kd_163 rfl rfl rfl ⟨by decide, by decide⟩ rfl rfl (Nat.le_of_ble_eq_true rfl) dX12_missing_10 rfl ?_
    intro r_25 N_26 q_27
    obtain ⟨hI_N_26, hG_N_26, q_27c⟩ := q_27
    have hF_N_26 : Fr f_e_missing M N_26 := Fr.c hF_M hG_N_26 rfl
    subst q_27c
    exact kx_iret F hQ ⟨hI_N_26, hF_N_26, (by omega), (YY.fr hY hG_N_26 rfl)⟩ dX12_missing_13
set_option maxRecDepth 100000 in
theorem dGR_41_c_1242 : (decode cX12_missingAt 0 = .ok (.aload_n 0, 1)) ∧ (decode cX12_missingAt 1 = .ok (.iload_n 1, 1)) ∧ (decode cX12_missingAt 2 = .ok (.invokevirtual 282, 3)) ∧ (decode cX12_missingAt 5 = .ok (.ifCond .eq 7, 3)) ∧ (decode cX12_missingAt 8 = .ok (.iload_n 2, 1)) ∧ (decode cX12_missingAt 9 = .ok (.ifCond .ge 9, 3)) ∧ (decode cX12_missingAt 12 = .ok (.aload_n 0, 1)) ∧ (decode cX12_missingAt 13 = .ok (.iconst 1, 1)) ∧ (decode cX12_missingAt 14 = .ok (.invokevirtual 123, 3)) ∧ (decode cX12_missingAt 17 = .ok (.ireturn, 1)) ∧ (decode cX12_missingAt 18 = .ok (.aload_n 0, 1)) ∧ (decode cX12_missingAt 19 = .ok (.iload_n 1, 1)) := by decide +kernel
theorem dX12_missingAt_0 : decode cX12_missingAt 0 = .ok (.aload_n 0, 1) := dGR_41_c_1242.1
theorem dX12_missingAt_1 : decode cX12_missingAt 1 = .ok (.iload_n 1, 1) := dGR_41_c_1242.2.1
theorem dX12_missingAt_2 : decode cX12_missingAt 2 = .ok (.invokevirtual 282, 3) := dGR_41_c_1242.2.2.1
theorem dX12_missingAt_5 : decode cX12_missingAt 5 = .ok (.ifCond .eq 7, 3) := dGR_41_c_1242.2.2.2.1
theorem dX12_missingAt_8 : decode cX12_missingAt 8 = .ok (.iload_n 2, 1) := dGR_41_c_1242.2.2.2.2.1
theorem dX12_missingAt_9 : decode cX12_missingAt 9 = .ok (.ifCond .ge 9, 3) := dGR_41_c_1242.2.2.2.2.2.1
theorem dX12_missingAt_12 : decode cX12_missingAt 12 = .ok (.aload_n 0, 1) := dGR_41_c_1242.2.2.2.2.2.2.1
theorem dX12_missingAt_13 : decode cX12_missingAt 13 = .ok (.iconst 1, 1) := dGR_41_c_1242.2.2.2.2.2.2.2.1
theorem dX12_missingAt_14 : decode cX12_missingAt 14 = .ok (.invokevirtual 123, 3) := dGR_41_c_1242.2.2.2.2.2.2.2.2.1
theorem dX12_missingAt_17 : decode cX12_missingAt 17 = .ok (.ireturn, 1) := dGR_41_c_1242.2.2.2.2.2.2.2.2.2.1
theorem dX12_missingAt_18 : decode cX12_missingAt 18 = .ok (.aload_n 0, 1) := dGR_41_c_1242.2.2.2.2.2.2.2.2.2.2.1
theorem dX12_missingAt_19 : decode cX12_missingAt 19 = .ok (.iload_n 1, 1) := dGR_41_c_1242.2.2.2.2.2.2.2.2.2.2.2
set_option maxRecDepth 100000 in
theorem dGR_41_c_1243 : (decode cX12_missingAt 20 = .ok (.invokevirtual 422, 3)) ∧ (decode cX12_missingAt 23 = .ok (.ifCond .eq 20, 3)) ∧ (decode cX12_missingAt 26 = .ok (.aload_n 0, 1)) ∧ (decode cX12_missingAt 27 = .ok (.iconst 2, 1)) ∧ (decode cX12_missingAt 28 = .ok (.iload_n 1, 1)) ∧ (decode cX12_missingAt 29 = .ok (.aload_n 0, 1)) ∧ (decode cX12_missingAt 30 = .ok (.iconst 2, 1)) ∧ (decode cX12_missingAt 31 = .ok (.iload_n 1, 1)) ∧ (decode cX12_missingAt 32 = .ok (.invokevirtual 503, 3)) ∧ (decode cX12_missingAt 35 = .ok (.iconst 0, 1)) ∧ (decode cX12_missingAt 36 = .ok (.iload_n 2, 1)) ∧ (decode cX12_missingAt 37 = .ok (.invokevirtual 499, 3)) := by decide +kernel
theorem dX12_missingAt_20 : decode cX12_missingAt 20 = .ok (.invokevirtual 422, 3) := dGR_41_c_1243.1
theorem dX12_missingAt_23 : decode cX12_missingAt 23 = .ok (.ifCond .eq 20, 3) := dGR_41_c_1243.2.1
theorem dX12_missingAt_26 : decode cX12_missingAt 26 = .ok (.aload_n 0, 1) := dGR_41_c_1243.2.2.1
theorem dX12_missingAt_27 : decode cX12_missingAt 27 = .ok (.iconst 2, 1) := dGR_41_c_1243.2.2.2.1
theorem dX12_missingAt_28 : decode cX12_missingAt 28 = .ok (.iload_n 1, 1) := dGR_41_c_1243.2.2.2.2.1
theorem dX12_missingAt_29 : decode cX12_missingAt 29 = .ok (.aload_n 0, 1) := dGR_41_c_1243.2.2.2.2.2.1
theorem dX12_missingAt_30 : decode cX12_missingAt 30 = .ok (.iconst 2, 1) := dGR_41_c_1243.2.2.2.2.2.2.1
theorem dX12_missingAt_31 : decode cX12_missingAt 31 = .ok (.iload_n 1, 1) := dGR_41_c_1243.2.2.2.2.2.2.2.1
theorem dX12_missingAt_32 : decode cX12_missingAt 32 = .ok (.invokevirtual 503, 3) := dGR_41_c_1243.2.2.2.2.2.2.2.2.1
theorem dX12_missingAt_35 : decode cX12_missingAt 35 = .ok (.iconst 0, 1) := dGR_41_c_1243.2.2.2.2.2.2.2.2.2.1
theorem dX12_missingAt_36 : decode cX12_missingAt 36 = .ok (.iload_n 2, 1) := dGR_41_c_1243.2.2.2.2.2.2.2.2.2.2.1
theorem dX12_missingAt_37 : decode cX12_missingAt 37 = .ok (.invokevirtual 499, 3) := dGR_41_c_1243.2.2.2.2.2.2.2.2.2.2.2
set_option maxRecDepth 100000 in
theorem dGR_41_c_1244 : (decode cX12_missingAt 40 = .ok (.goto 9, 3)) ∧ (decode cX12_missingAt 43 = .ok (.aload_n 0, 1)) ∧ (decode cX12_missingAt 44 = .ok (.bipush 7, 2)) ∧ (decode cX12_missingAt 46 = .ok (.invokevirtual 123, 3)) ∧ (decode cX12_missingAt 49 = .ok (.ireturn, 1)) := by decide +kernel
theorem dX12_missingAt_40 : decode cX12_missingAt 40 = .ok (.goto 9, 3) := dGR_41_c_1244.1
theorem dX12_missingAt_43 : decode cX12_missingAt 43 = .ok (.aload_n 0, 1) := dGR_41_c_1244.2.1
theorem dX12_missingAt_44 : decode cX12_missingAt 44 = .ok (.bipush 7, 2) := dGR_41_c_1244.2.2.1
theorem dX12_missingAt_46 : decode cX12_missingAt 46 = .ok (.invokevirtual 123, 3) := dGR_41_c_1244.2.2.2.1
theorem dX12_missingAt_49 : decode cX12_missingAt 49 = .ok (.ireturn, 1) := dGR_41_c_1244.2.2.2.2
abbrev f_e_missingAt : List (Nat × Int) := [(64, 2), (64, 35), (64, 45), (64, 48), (72, -1), (73, -1), (74, -1), (75, -1), (76, -1), (81, -1), (82, -1), (86, -1), (87, -1), (88, -1), (89, -1), (90, -1)]
set_option maxHeartbeats 4000000 in
set_option maxRecDepth 100000 in
theorem e_missingAt (G : KG) (l : Launch) (M : Mem) (a1 : Int) (a2 : Int) (hI_M : Inv true M) (hpre : -2147483648 ≤ a1 ∧ a1 ≤ 2147483647 ∧ -2147483648 ≤ a2 ∧ a2 ≤ 2147483647) (hY : YY M) : KC true G l yX12_missingAt cX12_missingAt 3 (some .int) (6, 157) [vR G 163, vI a1, vI a2] M (fun A => kQi true G A (fun (r : Int) (N : Mem) => Inv true N ∧ Fr f_e_missingAt M N ∧ (r ≥ -1 ∧ r ≤ 5) ∧ (YY N))) := by
  refine kx_met (lo := [some (vR G 163), some (vI a1), some (vI a2)]) (by decide) (Nat.le_of_ble_eq_true rfl) rfl ?_
  intro X F hQ
  have hF_M : Fr f_e_missingAt M M := Fr.rf _ _
  have h_1 := Inv.g hI_M kd_164 rfl 0 (a := 0) (b := 2) (at_c 0 0 (o := 0) (lo := 0) (hi := 2) (by omega) (by decide) (by decide) (by decide)).1 (at_c 0 0 (o := 0) (lo := 0) (hi := 2) (by omega) (by decide) (by decide) (by decide)).2
  have h_2 := Inv.g hI_M kd_164 rfl 1 (a := 0) (b := 2) (at_c 1 0 (o := 1) (lo := 0) (hi := 2) (by omega) (by decide) (by decide) (by decide)).1 (at_c 1 0 (o := 1) (lo := 0) (hi := 2) (by omega) (by decide) (by decide) (by decide)).2
  have h_3 := Inv.g hI_M kd_164 rfl 2 (a := 0) (b := 2) (at_c 2 0 (o := 2) (lo := 0) (hi := 2) (by omega) (by decide) (by decide) (by decide)).1 (at_c 2 0 (o := 2) (lo := 0) (hi := 2) (by omega) (by decide) (by decide) (by decide)).2
  refine kx_aload_n 1 F 0 dX12_missingAt_0 rfl rfl rfl ?_
  refine kx_iload_n 2 F 1 dX12_missingAt_1 rfl rfl rfl ?_
  refine kx_Vi 5 (ci := 0) F (As := [vI a1]) (st := []) vd_X12_282 (c_X12_isAutomaton G l M a1 hI_M (by omega)) kd_163 rfl rfl rfl ⟨by decide, by decide⟩ rfl rfl (Nat.le_of_ble_eq_true rfl) dX12_missingAt_2 rfl ?_
  intro r_4 N_5 q_6
  obtain ⟨rfl, q_6c⟩ := q_6
  rcases q_6c with q_6c | q_6c
  · refine kx_if_eq 8 F 12 dX12_missingAt_5 (by decide) rfl (by omega) (fun h_7 => (by exfalso; omega)) (fun h_7 => ?_)
    refine kx_iload_n 9 F 2 dX12_missingAt_8 rfl rfl rfl ?_
    refine kx_if_ge 12 F 18 dX12_missingAt_9 (by decide) rfl (by omega) (fun h_8 => ?_) (fun h_8 => ?_)
    · refine kx_aload_n 19 F 0 dX12_missingAt_18 rfl rfl rfl ?_
      refine kx_iload_n 20 F 1 dX12_missingAt_19 rfl rfl rfl ?_
      refine kx_Vi 23 (ci := 0) F (As := [vI a1]) (st := []) vd_X12_422 (e_laysTable G l M a1 hI_M (by omega)) kd_163 rfl rfl rfl ⟨by decide, by decide⟩ rfl rfl (Nat.le_of_ble_eq_true rfl) dX12_missingAt_20 rfl ?_
      intro r_9 N_10 q_11
      obtain ⟨hI_N_10, hG_N_10, q_11c, hc_N_10⟩ := q_11
      have hF_N_10 : Fr f_e_missingAt M N_10 := Fr.c hF_M hG_N_10 rfl
      have h_12 := Inv.g hI_N_10 kd_163 rfl 35 (a := 0) (b := 41) rfl rfl
      rcases q_11c with q_11c | q_11c
      · refine kx_if_eq 26 F 43 dX12_missingAt_23 (by decide) rfl (by omega) (fun h_13 => (by exfalso; omega)) (fun h_13 => ?_)
        refine kx_aload_n 27 F 0 dX12_missingAt_26 rfl rfl rfl ?_
        refine kx_iconst 28 F dX12_missingAt_27 rfl ?_
        refine kx_iload_n 29 F 1 dX12_missingAt_28 rfl rfl rfl ?_
        refine kx_aload_n 30 F 0 dX12_missingAt_29 rfl rfl rfl ?_
        refine kx_iconst 31 F dX12_missingAt_30 rfl ?_
        refine kx_iload_n 32 F 1 dX12_missingAt_31 rfl rfl rfl ?_
        have hb_14 : Clo (N_10 164) a1 := by rw [show N_10 164 = M 164 from funext (fun j => by rw [Fr.e hG_N_10 kd_164 _ rfl])]; exact hc_N_10 (by omega)
        refine kx_Vi 35 (ci := 0) F (As := [vI 2, vI a1]) (st := [vI a1, vI 2, vR G 163]) vd_X12_503 (e_partingOf G l N_10 2 a1 hI_N_10 (by omega) (YY.fr hY hG_N_10 rfl) hb_14) kd_163 rfl rfl rfl ⟨by decide, by decide⟩ rfl rfl (Nat.le_of_ble_eq_true rfl) dX12_missingAt_32 rfl ?_
        intro r_15 N_16 q_17
        obtain ⟨hI_N_16, hG_N_16, q_17c⟩ := q_17
        have hF_N_16 : Fr f_e_missingAt M N_16 := Fr.c hF_N_10 hG_N_16 rfl
        refine kx_iconst 36 F dX12_missingAt_35 rfl ?_
        refine kx_iload_n 37 F 2 dX12_missingAt_36 rfl rfl rfl ?_
        refine kx_Vi 40 (ci := 0) F (As := [vI 2, vI a1, vI r_15, vI 0, vI a2]) (st := []) vd_X12_499 (c_X12_wordAt G l N_16 2 a1 r_15 0 a2 hI_N_16 (by omega)) kd_163 rfl rfl rfl ⟨by decide, by decide⟩ rfl rfl (Nat.le_of_ble_eq_true rfl) dX12_missingAt_37 rfl ?_
        intro r_18 N_19 q_20
        obtain ⟨hI_N_19, hG_N_19, q_20c⟩ := q_20
        have hF_N_19 : Fr f_e_missingAt M N_19 := Fr.c hF_N_16 hG_N_19 rfl
        refine kx_goto 49 F dX12_missingAt_40 (by decide) ?_
        exact kx_iret F hQ ⟨hI_N_19, hF_N_19, (by omega), (YY.fr (YY.fr (YY.fr hY hG_N_10 rfl) hG_N_16 rfl) hG_N_19 rfl)⟩ dX12_missingAt_49
      · refine kx_if_eq 26 F 43 dX12_missingAt_23 (by decide) rfl (by omega) (fun h_21 => ?_) (fun h_21 => (by exfalso; omega))
        refine kx_aload_n 44 F 0 dX12_missingAt_43 rfl rfl rfl ?_
        refine kx_bipush 46 F dX12_missingAt_44 (by decide) rfl ?_
        refine kx_Vi 49 (ci := 0) F (As := [vI 7]) (st := []) vd_X12_123 (c_X12_refuse G l N_10 7 hI_N_10 (by omega)) kd_163 rfl rfl rfl ⟨by decide, by decide⟩ rfl rfl (Nat.le_of_ble_eq_true rfl) dX12_missingAt_46 rfl ?_
        intro r_22 N_23 q_24
        obtain ⟨hI_N_23, hG_N_23, q_24c⟩ := q_24
        have hF_N_23 : Fr f_e_missingAt M N_23 := Fr.c hF_N_10 hG_N_23 rfl
        subst q_24c
        exact kx_iret F hQ ⟨hI_N_23, hF_N_23, (by omega), (YY.fr (YY.fr hY hG_N_10 rfl) hG_N_23 rfl)⟩ dX12_missingAt_49
    · refine kx_aload_n 13 F 0 dX12_missingAt_12 rfl rfl rfl ?_
      refine kx_iconst 14 F dX12_missingAt_13 rfl ?_
      refine kx_Vi 17 (ci := 0) F (As := [vI 1]) (st := []) vd_X12_123 (c_X12_refuse G l M 1 hI_M (by omega)) kd_163 rfl rfl rfl ⟨by decide, by decide⟩ rfl rfl (Nat.le_of_ble_eq_true rfl) dX12_missingAt_14 rfl ?_
      intro r_25 N_26 q_27
      obtain ⟨hI_N_26, hG_N_26, q_27c⟩ := q_27
      have hF_N_26 : Fr f_e_missingAt M N_26 := Fr.c hF_M hG_N_26 rfl
      subst q_27c
      exact kx_iret F hQ ⟨hI_N_26, hF_N_26, (by omega), (YY.fr hY hG_N_26 rfl)⟩ dX12_missingAt_17
  · refine kx_if_eq 8 F 12 dX12_missingAt_5 (by decide) rfl (by omega) (fun h_28 => ?_) (fun h_28 => (by exfalso; omega))
    refine kx_aload_n 13 F 0 dX12_missingAt_12 rfl rfl rfl ?_
    refine kx_iconst 14 F dX12_missingAt_13 rfl ?_
    refine kx_Vi 17 (ci := 0) F (As := [vI 1]) (st := []) vd_X12_123 (c_X12_refuse G l M 1 hI_M (by omega)) kd_163 rfl rfl rfl ⟨by decide, by decide⟩ rfl rfl (Nat.le_of_ble_eq_true rfl) dX12_missingAt_14 rfl ?_
    intro r_29 N_30 q_31
    obtain ⟨hI_N_30, hG_N_30, q_31c⟩ := q_31
    have hF_N_30 : Fr f_e_missingAt M N_30 := Fr.c hF_M hG_N_30 rfl
    subst q_31c
    exact kx_iret F hQ ⟨hI_N_30, hF_N_30, (by omega), (YY.fr hY hG_N_30 rfl)⟩ dX12_missingAt_17
set_option maxRecDepth 100000 in
theorem dGR_41_c_1245 : (decode cX12_includes 0 = .ok (.aload_n 0, 1)) ∧ (decode cX12_includes 1 = .ok (.iload_n 1, 1)) ∧ (decode cX12_includes 2 = .ok (.iload_n 2, 1)) ∧ (decode cX12_includes 3 = .ok (.invokevirtual 313, 3)) ∧ (decode cX12_includes 6 = .ok (.ifCond .ne 9, 3)) ∧ (decode cX12_includes 9 = .ok (.aload_n 0, 1)) ∧ (decode cX12_includes 10 = .ok (.iconst 1, 1)) ∧ (decode cX12_includes 11 = .ok (.invokevirtual 123, 3)) ∧ (decode cX12_includes 14 = .ok (.ireturn, 1)) ∧ (decode cX12_includes 15 = .ok (.aload_n 0, 1)) ∧ (decode cX12_includes 16 = .ok (.iload_n 2, 1)) ∧ (decode cX12_includes 17 = .ok (.invokevirtual 422, 3)) := by decide +kernel
theorem dX12_includes_0 : decode cX12_includes 0 = .ok (.aload_n 0, 1) := dGR_41_c_1245.1
theorem dX12_includes_1 : decode cX12_includes 1 = .ok (.iload_n 1, 1) := dGR_41_c_1245.2.1
theorem dX12_includes_2 : decode cX12_includes 2 = .ok (.iload_n 2, 1) := dGR_41_c_1245.2.2.1
theorem dX12_includes_3 : decode cX12_includes 3 = .ok (.invokevirtual 313, 3) := dGR_41_c_1245.2.2.2.1
theorem dX12_includes_6 : decode cX12_includes 6 = .ok (.ifCond .ne 9, 3) := dGR_41_c_1245.2.2.2.2.1
theorem dX12_includes_9 : decode cX12_includes 9 = .ok (.aload_n 0, 1) := dGR_41_c_1245.2.2.2.2.2.1
theorem dX12_includes_10 : decode cX12_includes 10 = .ok (.iconst 1, 1) := dGR_41_c_1245.2.2.2.2.2.2.1
theorem dX12_includes_11 : decode cX12_includes 11 = .ok (.invokevirtual 123, 3) := dGR_41_c_1245.2.2.2.2.2.2.2.1
theorem dX12_includes_14 : decode cX12_includes 14 = .ok (.ireturn, 1) := dGR_41_c_1245.2.2.2.2.2.2.2.2.1
theorem dX12_includes_15 : decode cX12_includes 15 = .ok (.aload_n 0, 1) := dGR_41_c_1245.2.2.2.2.2.2.2.2.2.1
theorem dX12_includes_16 : decode cX12_includes 16 = .ok (.iload_n 2, 1) := dGR_41_c_1245.2.2.2.2.2.2.2.2.2.2.1
theorem dX12_includes_17 : decode cX12_includes 17 = .ok (.invokevirtual 422, 3) := dGR_41_c_1245.2.2.2.2.2.2.2.2.2.2.2
set_option maxRecDepth 100000 in
theorem dGR_41_c_1246 : (decode cX12_includes 20 = .ok (.ifCond .eq 25, 3)) ∧ (decode cX12_includes 23 = .ok (.aload_n 0, 1)) ∧ (decode cX12_includes 24 = .ok (.aload_n 0, 1)) ∧ (decode cX12_includes 25 = .ok (.iload_n 1, 1)) ∧ (decode cX12_includes 26 = .ok (.iload_n 2, 1)) ∧ (decode cX12_includes 27 = .ok (.invokevirtual 503, 3)) ∧ (decode cX12_includes 30 = .ok (.iconst (-1), 1)) ∧ (decode cX12_includes 31 = .ok (.if_icmp .ne 7, 3)) ∧ (decode cX12_includes 34 = .ok (.iconst 1, 1)) ∧ (decode cX12_includes 35 = .ok (.goto 4, 3)) ∧ (decode cX12_includes 38 = .ok (.iconst 0, 1)) ∧ (decode cX12_includes 39 = .ok (.invokevirtual 127, 3)) := by decide +kernel
theorem dX12_includes_20 : decode cX12_includes 20 = .ok (.ifCond .eq 25, 3) := dGR_41_c_1246.1
theorem dX12_includes_23 : decode cX12_includes 23 = .ok (.aload_n 0, 1) := dGR_41_c_1246.2.1
theorem dX12_includes_24 : decode cX12_includes 24 = .ok (.aload_n 0, 1) := dGR_41_c_1246.2.2.1
theorem dX12_includes_25 : decode cX12_includes 25 = .ok (.iload_n 1, 1) := dGR_41_c_1246.2.2.2.1
theorem dX12_includes_26 : decode cX12_includes 26 = .ok (.iload_n 2, 1) := dGR_41_c_1246.2.2.2.2.1
theorem dX12_includes_27 : decode cX12_includes 27 = .ok (.invokevirtual 503, 3) := dGR_41_c_1246.2.2.2.2.2.1
theorem dX12_includes_30 : decode cX12_includes 30 = .ok (.iconst (-1), 1) := dGR_41_c_1246.2.2.2.2.2.2.1
theorem dX12_includes_31 : decode cX12_includes 31 = .ok (.if_icmp .ne 7, 3) := dGR_41_c_1246.2.2.2.2.2.2.2.1
theorem dX12_includes_34 : decode cX12_includes 34 = .ok (.iconst 1, 1) := dGR_41_c_1246.2.2.2.2.2.2.2.2.1
theorem dX12_includes_35 : decode cX12_includes 35 = .ok (.goto 4, 3) := dGR_41_c_1246.2.2.2.2.2.2.2.2.2.1
theorem dX12_includes_38 : decode cX12_includes 38 = .ok (.iconst 0, 1) := dGR_41_c_1246.2.2.2.2.2.2.2.2.2.2.1
theorem dX12_includes_39 : decode cX12_includes 39 = .ok (.invokevirtual 127, 3) := dGR_41_c_1246.2.2.2.2.2.2.2.2.2.2.2
set_option maxRecDepth 100000 in
theorem dGR_41_c_1247 : (decode cX12_includes 42 = .ok (.goto 9, 3)) ∧ (decode cX12_includes 45 = .ok (.aload_n 0, 1)) ∧ (decode cX12_includes 46 = .ok (.bipush 7, 2)) ∧ (decode cX12_includes 48 = .ok (.invokevirtual 123, 3)) ∧ (decode cX12_includes 51 = .ok (.ireturn, 1)) := by decide +kernel
theorem dX12_includes_42 : decode cX12_includes 42 = .ok (.goto 9, 3) := dGR_41_c_1247.1
theorem dX12_includes_45 : decode cX12_includes 45 = .ok (.aload_n 0, 1) := dGR_41_c_1247.2.1
theorem dX12_includes_46 : decode cX12_includes 46 = .ok (.bipush 7, 2) := dGR_41_c_1247.2.2.1
theorem dX12_includes_48 : decode cX12_includes 48 = .ok (.invokevirtual 123, 3) := dGR_41_c_1247.2.2.2.1
theorem dX12_includes_51 : decode cX12_includes 51 = .ok (.ireturn, 1) := dGR_41_c_1247.2.2.2.2
abbrev f_e_includes : List (Nat × Int) := [(64, 2), (64, 35), (64, 45), (72, -1), (81, -1), (82, -1), (86, -1), (87, -1), (88, -1)]
set_option maxHeartbeats 4000000 in
set_option maxRecDepth 100000 in
theorem e_includes (G : KG) (l : Launch) (M : Mem) (a1 : Int) (a2 : Int) (hI_M : Inv true M) (hpre : -2147483648 ≤ a1 ∧ a1 ≤ 2147483647 ∧ -2147483648 ≤ a2 ∧ a2 ≤ 2147483647) (hY : YY M) : KC true G l yX12_includes cX12_includes 3 (some .int) (6, 156) [vR G 163, vI a1, vI a2] M (fun A => kQi true G A (fun (r : Int) (N : Mem) => Inv true N ∧ Fr f_e_includes M N ∧ (r ≥ -1 ∧ r ≤ 1) ∧ (YY N))) := by
  refine kx_met (lo := [some (vR G 163), some (vI a1), some (vI a2)]) (by decide) (Nat.le_of_ble_eq_true rfl) rfl ?_
  intro X F hQ
  have hF_M : Fr f_e_includes M M := Fr.rf _ _
  have h_1 := Inv.g hI_M kd_164 rfl 0 (a := 0) (b := 2) (at_c 0 0 (o := 0) (lo := 0) (hi := 2) (by omega) (by decide) (by decide) (by decide)).1 (at_c 0 0 (o := 0) (lo := 0) (hi := 2) (by omega) (by decide) (by decide) (by decide)).2
  have h_2 := Inv.g hI_M kd_164 rfl 1 (a := 0) (b := 2) (at_c 1 0 (o := 1) (lo := 0) (hi := 2) (by omega) (by decide) (by decide) (by decide)).1 (at_c 1 0 (o := 1) (lo := 0) (hi := 2) (by omega) (by decide) (by decide) (by decide)).2
  have h_3 := Inv.g hI_M kd_164 rfl 2 (a := 0) (b := 2) (at_c 2 0 (o := 2) (lo := 0) (hi := 2) (by omega) (by decide) (by decide) (by decide)).1 (at_c 2 0 (o := 2) (lo := 0) (hi := 2) (by omega) (by decide) (by decide) (by decide)).2
  refine kx_aload_n 1 F 0 dX12_includes_0 rfl rfl rfl ?_
  refine kx_iload_n 2 F 1 dX12_includes_1 rfl rfl rfl ?_
  refine kx_iload_n 3 F 2 dX12_includes_2 rfl rfl rfl ?_
  refine kx_Vi 6 (ci := 0) F (As := [vI a1, vI a2]) (st := []) vd_X12_313 (c_X12_areTwo G l M a1 a2 hI_M (by omega)) kd_163 rfl rfl rfl ⟨by decide, by decide⟩ rfl rfl (Nat.le_of_ble_eq_true rfl) dX12_includes_3 rfl ?_
  intro r_4 N_5 q_6
  obtain ⟨rfl, q_6c⟩ := q_6
  rcases q_6c with q_6c | q_6c
  · refine kx_if_ne 9 F 15 dX12_includes_6 (by decide) rfl (by omega) (fun h_7 => ?_) (fun h_7 => (by exfalso; omega))
    refine kx_aload_n 16 F 0 dX12_includes_15 rfl rfl rfl ?_
    refine kx_iload_n 17 F 2 dX12_includes_16 rfl rfl rfl ?_
    refine kx_Vi 20 (ci := 0) F (As := [vI a2]) (st := []) vd_X12_422 (e_laysTable G l M a2 hI_M (by omega)) kd_163 rfl rfl rfl ⟨by decide, by decide⟩ rfl rfl (Nat.le_of_ble_eq_true rfl) dX12_includes_17 rfl ?_
    intro r_8 N_9 q_10
    obtain ⟨hI_N_9, hG_N_9, q_10c, hc_N_9⟩ := q_10
    have hF_N_9 : Fr f_e_includes M N_9 := Fr.c hF_M hG_N_9 rfl
    have h_11 := Inv.g hI_N_9 kd_163 rfl 35 (a := 0) (b := 41) rfl rfl
    rcases q_10c with q_10c | q_10c
    · refine kx_if_eq 23 F 45 dX12_includes_20 (by decide) rfl (by omega) (fun h_12 => (by exfalso; omega)) (fun h_12 => ?_)
      refine kx_aload_n 24 F 0 dX12_includes_23 rfl rfl rfl ?_
      refine kx_aload_n 25 F 0 dX12_includes_24 rfl rfl rfl ?_
      refine kx_iload_n 26 F 1 dX12_includes_25 rfl rfl rfl ?_
      refine kx_iload_n 27 F 2 dX12_includes_26 rfl rfl rfl ?_
      have hb_13 : Clo (N_9 164) a2 := by rw [show N_9 164 = M 164 from funext (fun j => by rw [Fr.e hG_N_9 kd_164 _ rfl])]; exact hc_N_9 (by omega)
      refine kx_Vi 30 (ci := 0) F (As := [vI a1, vI a2]) (st := [vR G 163]) vd_X12_503 (e_partingOf G l N_9 a1 a2 hI_N_9 (by omega) (YY.fr hY hG_N_9 rfl) hb_13) kd_163 rfl rfl rfl ⟨by decide, by decide⟩ rfl rfl (Nat.le_of_ble_eq_true rfl) dX12_includes_27 rfl ?_
      intro r_14 N_15 q_16
      obtain ⟨hI_N_15, hG_N_15, q_16c⟩ := q_16
      have hF_N_15 : Fr f_e_includes M N_15 := Fr.c hF_N_9 hG_N_15 rfl
      refine kx_iconst 31 F dX12_includes_30 rfl ?_
      refine kx_icmp_ne 34 F 38 dX12_includes_31 (by decide) rfl (by omega) (by decide) (fun h_17 => ?_) (fun h_17 => ?_)
      · refine kx_iconst 39 F dX12_includes_38 rfl ?_
        refine kx_Vi 42 (ci := 0) F (As := [vI 0]) (st := []) vd_X12_127 (c_X12_gives G l N_15 0 hI_N_15 (by omega)) kd_163 rfl rfl rfl ⟨by decide, by decide⟩ rfl rfl (Nat.le_of_ble_eq_true rfl) dX12_includes_39 rfl ?_
        intro r_18 N_19 q_20
        obtain ⟨hI_N_19, hG_N_19, q_20c⟩ := q_20
        have hF_N_19 : Fr f_e_includes M N_19 := Fr.c hF_N_15 hG_N_19 rfl
        refine kx_topi (e' := 0) (by omega) ?_
        refine kx_goto 51 F dX12_includes_42 (by decide) ?_
        exact kx_iret F hQ ⟨hI_N_19, hF_N_19, (by omega), (YY.fr (YY.fr (YY.fr hY hG_N_9 rfl) hG_N_15 rfl) hG_N_19 rfl)⟩ dX12_includes_51
      · refine kx_iconst 35 F dX12_includes_34 rfl ?_
        refine kx_goto 39 F dX12_includes_35 (by decide) ?_
        refine kx_Vi 42 (ci := 0) F (As := [vI 1]) (st := []) vd_X12_127 (c_X12_gives G l N_15 1 hI_N_15 (by omega)) kd_163 rfl rfl rfl ⟨by decide, by decide⟩ rfl rfl (Nat.le_of_ble_eq_true rfl) dX12_includes_39 rfl ?_
        intro r_21 N_22 q_23
        obtain ⟨hI_N_22, hG_N_22, q_23c⟩ := q_23
        have hF_N_22 : Fr f_e_includes M N_22 := Fr.c hF_N_15 hG_N_22 rfl
        refine kx_topi (e' := 1) (by omega) ?_
        refine kx_goto 51 F dX12_includes_42 (by decide) ?_
        exact kx_iret F hQ ⟨hI_N_22, hF_N_22, (by omega), (YY.fr (YY.fr (YY.fr hY hG_N_9 rfl) hG_N_15 rfl) hG_N_22 rfl)⟩ dX12_includes_51
    · refine kx_if_eq 23 F 45 dX12_includes_20 (by decide) rfl (by omega) (fun h_24 => ?_) (fun h_24 => (by exfalso; omega))
      refine kx_aload_n 46 F 0 dX12_includes_45 rfl rfl rfl ?_
      refine kx_bipush 48 F dX12_includes_46 (by decide) rfl ?_
      refine kx_Vi 51 (ci := 0) F (As := [vI 7]) (st := []) vd_X12_123 (c_X12_refuse G l N_9 7 hI_N_9 (by omega)) kd_163 rfl rfl rfl ⟨by decide, by decide⟩ rfl rfl (Nat.le_of_ble_eq_true rfl) dX12_includes_48 rfl ?_
      intro r_25 N_26 q_27
      obtain ⟨hI_N_26, hG_N_26, q_27c⟩ := q_27
      have hF_N_26 : Fr f_e_includes M N_26 := Fr.c hF_N_9 hG_N_26 rfl
      subst q_27c
      exact kx_iret F hQ ⟨hI_N_26, hF_N_26, (by omega), (YY.fr (YY.fr hY hG_N_9 rfl) hG_N_26 rfl)⟩ dX12_includes_51
  · refine kx_if_ne 9 F 15 dX12_includes_6 (by decide) rfl (by omega) (fun h_28 => (by exfalso; omega)) (fun h_28 => ?_)
    refine kx_aload_n 10 F 0 dX12_includes_9 rfl rfl rfl ?_
    refine kx_iconst 11 F dX12_includes_10 rfl ?_
    refine kx_Vi 14 (ci := 0) F (As := [vI 1]) (st := []) vd_X12_123 (c_X12_refuse G l M 1 hI_M (by omega)) kd_163 rfl rfl rfl ⟨by decide, by decide⟩ rfl rfl (Nat.le_of_ble_eq_true rfl) dX12_includes_11 rfl ?_
    intro r_29 N_30 q_31
    obtain ⟨hI_N_30, hG_N_30, q_31c⟩ := q_31
    have hF_N_30 : Fr f_e_includes M N_30 := Fr.c hF_M hG_N_30 rfl
    subst q_31c
    exact kx_iret F hQ ⟨hI_N_30, hF_N_30, (by omega), (YY.fr hY hG_N_30 rfl)⟩ dX12_includes_14
set_option maxRecDepth 100000 in
theorem dGR_41_c_1248 : (decode cX12_equal 0 = .ok (.aload_n 0, 1)) ∧ (decode cX12_equal 1 = .ok (.iload_n 1, 1)) ∧ (decode cX12_equal 2 = .ok (.iload_n 2, 1)) ∧ (decode cX12_equal 3 = .ok (.invokevirtual 313, 3)) ∧ (decode cX12_equal 6 = .ok (.ifCond .ne 9, 3)) ∧ (decode cX12_equal 9 = .ok (.aload_n 0, 1)) ∧ (decode cX12_equal 10 = .ok (.iconst 1, 1)) ∧ (decode cX12_equal 11 = .ok (.invokevirtual 123, 3)) ∧ (decode cX12_equal 14 = .ok (.ireturn, 1)) ∧ (decode cX12_equal 15 = .ok (.aload_n 0, 1)) ∧ (decode cX12_equal 16 = .ok (.iload_n 1, 1)) ∧ (decode cX12_equal 17 = .ok (.invokevirtual 422, 3)) := by decide +kernel
theorem dX12_equal_0 : decode cX12_equal 0 = .ok (.aload_n 0, 1) := dGR_41_c_1248.1
theorem dX12_equal_1 : decode cX12_equal 1 = .ok (.iload_n 1, 1) := dGR_41_c_1248.2.1
theorem dX12_equal_2 : decode cX12_equal 2 = .ok (.iload_n 2, 1) := dGR_41_c_1248.2.2.1
theorem dX12_equal_3 : decode cX12_equal 3 = .ok (.invokevirtual 313, 3) := dGR_41_c_1248.2.2.2.1
theorem dX12_equal_6 : decode cX12_equal 6 = .ok (.ifCond .ne 9, 3) := dGR_41_c_1248.2.2.2.2.1
theorem dX12_equal_9 : decode cX12_equal 9 = .ok (.aload_n 0, 1) := dGR_41_c_1248.2.2.2.2.2.1
theorem dX12_equal_10 : decode cX12_equal 10 = .ok (.iconst 1, 1) := dGR_41_c_1248.2.2.2.2.2.2.1
theorem dX12_equal_11 : decode cX12_equal 11 = .ok (.invokevirtual 123, 3) := dGR_41_c_1248.2.2.2.2.2.2.2.1
theorem dX12_equal_14 : decode cX12_equal 14 = .ok (.ireturn, 1) := dGR_41_c_1248.2.2.2.2.2.2.2.2.1
theorem dX12_equal_15 : decode cX12_equal 15 = .ok (.aload_n 0, 1) := dGR_41_c_1248.2.2.2.2.2.2.2.2.2.1
theorem dX12_equal_16 : decode cX12_equal 16 = .ok (.iload_n 1, 1) := dGR_41_c_1248.2.2.2.2.2.2.2.2.2.2.1
theorem dX12_equal_17 : decode cX12_equal 17 = .ok (.invokevirtual 422, 3) := dGR_41_c_1248.2.2.2.2.2.2.2.2.2.2.2
set_option maxRecDepth 100000 in
theorem dGR_41_c_1249 : (decode cX12_equal 20 = .ok (.ifCond .eq 11, 3)) ∧ (decode cX12_equal 23 = .ok (.aload_n 0, 1)) ∧ (decode cX12_equal 24 = .ok (.iload_n 2, 1)) ∧ (decode cX12_equal 25 = .ok (.invokevirtual 422, 3)) ∧ (decode cX12_equal 28 = .ok (.ifCond .ne 10, 3)) ∧ (decode cX12_equal 31 = .ok (.aload_n 0, 1)) ∧ (decode cX12_equal 32 = .ok (.bipush 7, 2)) ∧ (decode cX12_equal 34 = .ok (.invokevirtual 123, 3)) ∧ (decode cX12_equal 37 = .ok (.ireturn, 1)) ∧ (decode cX12_equal 38 = .ok (.aload_n 0, 1)) ∧ (decode cX12_equal 39 = .ok (.aload_n 0, 1)) ∧ (decode cX12_equal 40 = .ok (.iload_n 1, 1)) := by decide +kernel
theorem dX12_equal_20 : decode cX12_equal 20 = .ok (.ifCond .eq 11, 3) := dGR_41_c_1249.1
theorem dX12_equal_23 : decode cX12_equal 23 = .ok (.aload_n 0, 1) := dGR_41_c_1249.2.1
theorem dX12_equal_24 : decode cX12_equal 24 = .ok (.iload_n 2, 1) := dGR_41_c_1249.2.2.1
theorem dX12_equal_25 : decode cX12_equal 25 = .ok (.invokevirtual 422, 3) := dGR_41_c_1249.2.2.2.1
theorem dX12_equal_28 : decode cX12_equal 28 = .ok (.ifCond .ne 10, 3) := dGR_41_c_1249.2.2.2.2.1
theorem dX12_equal_31 : decode cX12_equal 31 = .ok (.aload_n 0, 1) := dGR_41_c_1249.2.2.2.2.2.1
theorem dX12_equal_32 : decode cX12_equal 32 = .ok (.bipush 7, 2) := dGR_41_c_1249.2.2.2.2.2.2.1
theorem dX12_equal_34 : decode cX12_equal 34 = .ok (.invokevirtual 123, 3) := dGR_41_c_1249.2.2.2.2.2.2.2.1
theorem dX12_equal_37 : decode cX12_equal 37 = .ok (.ireturn, 1) := dGR_41_c_1249.2.2.2.2.2.2.2.2.1
theorem dX12_equal_38 : decode cX12_equal 38 = .ok (.aload_n 0, 1) := dGR_41_c_1249.2.2.2.2.2.2.2.2.2.1
theorem dX12_equal_39 : decode cX12_equal 39 = .ok (.aload_n 0, 1) := dGR_41_c_1249.2.2.2.2.2.2.2.2.2.2.1
theorem dX12_equal_40 : decode cX12_equal 40 = .ok (.iload_n 1, 1) := dGR_41_c_1249.2.2.2.2.2.2.2.2.2.2.2
set_option maxRecDepth 100000 in
theorem dGR_41_c_1250 : (decode cX12_equal 41 = .ok (.iload_n 2, 1)) ∧ (decode cX12_equal 42 = .ok (.invokevirtual 503, 3)) ∧ (decode cX12_equal 45 = .ok (.iconst (-1), 1)) ∧ (decode cX12_equal 46 = .ok (.if_icmp .ne 17, 3)) ∧ (decode cX12_equal 49 = .ok (.aload_n 0, 1)) ∧ (decode cX12_equal 50 = .ok (.iload_n 2, 1)) ∧ (decode cX12_equal 51 = .ok (.iload_n 1, 1)) ∧ (decode cX12_equal 52 = .ok (.invokevirtual 503, 3)) ∧ (decode cX12_equal 55 = .ok (.iconst (-1), 1)) ∧ (decode cX12_equal 56 = .ok (.if_icmp .ne 7, 3)) ∧ (decode cX12_equal 59 = .ok (.iconst 1, 1)) ∧ (decode cX12_equal 60 = .ok (.goto 4, 3)) := by decide +kernel
theorem dX12_equal_41 : decode cX12_equal 41 = .ok (.iload_n 2, 1) := dGR_41_c_1250.1
theorem dX12_equal_42 : decode cX12_equal 42 = .ok (.invokevirtual 503, 3) := dGR_41_c_1250.2.1
theorem dX12_equal_45 : decode cX12_equal 45 = .ok (.iconst (-1), 1) := dGR_41_c_1250.2.2.1
theorem dX12_equal_46 : decode cX12_equal 46 = .ok (.if_icmp .ne 17, 3) := dGR_41_c_1250.2.2.2.1
theorem dX12_equal_49 : decode cX12_equal 49 = .ok (.aload_n 0, 1) := dGR_41_c_1250.2.2.2.2.1
theorem dX12_equal_50 : decode cX12_equal 50 = .ok (.iload_n 2, 1) := dGR_41_c_1250.2.2.2.2.2.1
theorem dX12_equal_51 : decode cX12_equal 51 = .ok (.iload_n 1, 1) := dGR_41_c_1250.2.2.2.2.2.2.1
theorem dX12_equal_52 : decode cX12_equal 52 = .ok (.invokevirtual 503, 3) := dGR_41_c_1250.2.2.2.2.2.2.2.1
theorem dX12_equal_55 : decode cX12_equal 55 = .ok (.iconst (-1), 1) := dGR_41_c_1250.2.2.2.2.2.2.2.2.1
theorem dX12_equal_56 : decode cX12_equal 56 = .ok (.if_icmp .ne 7, 3) := dGR_41_c_1250.2.2.2.2.2.2.2.2.2.1
theorem dX12_equal_59 : decode cX12_equal 59 = .ok (.iconst 1, 1) := dGR_41_c_1250.2.2.2.2.2.2.2.2.2.2.1
theorem dX12_equal_60 : decode cX12_equal 60 = .ok (.goto 4, 3) := dGR_41_c_1250.2.2.2.2.2.2.2.2.2.2.2
set_option maxRecDepth 100000 in
theorem dGR_41_c_1251 : (decode cX12_equal 63 = .ok (.iconst 0, 1)) ∧ (decode cX12_equal 64 = .ok (.invokevirtual 127, 3)) ∧ (decode cX12_equal 67 = .ok (.ireturn, 1)) := by decide +kernel
theorem dX12_equal_63 : decode cX12_equal 63 = .ok (.iconst 0, 1) := dGR_41_c_1251.1
theorem dX12_equal_64 : decode cX12_equal 64 = .ok (.invokevirtual 127, 3) := dGR_41_c_1251.2.1
theorem dX12_equal_67 : decode cX12_equal 67 = .ok (.ireturn, 1) := dGR_41_c_1251.2.2
abbrev f_e_equal : List (Nat × Int) := [(64, 2), (64, 35), (64, 45), (72, -1), (81, -1), (82, -1), (86, -1), (87, -1), (88, -1)]
set_option maxHeartbeats 4000000 in
set_option maxRecDepth 100000 in
theorem e_equal (G : KG) (l : Launch) (M : Mem) (a1 : Int) (a2 : Int) (hI_M : Inv true M) (hpre : -2147483648 ≤ a1 ∧ a1 ≤ 2147483647 ∧ -2147483648 ≤ a2 ∧ a2 ≤ 2147483647) (hY : YY M) : KC true G l yX12_equal cX12_equal 3 (some .int) (6, 156) [vR G 163, vI a1, vI a2] M (fun A => kQi true G A (fun (r : Int) (N : Mem) => Inv true N ∧ Fr f_e_equal M N ∧ (r ≥ -1 ∧ r ≤ 1) ∧ (YY N))) := by
  refine kx_met (lo := [some (vR G 163), some (vI a1), some (vI a2)]) (by decide) (Nat.le_of_ble_eq_true rfl) rfl ?_
  intro X F hQ
  have hF_M : Fr f_e_equal M M := Fr.rf _ _
  have h_1 := Inv.g hI_M kd_164 rfl 0 (a := 0) (b := 2) (at_c 0 0 (o := 0) (lo := 0) (hi := 2) (by omega) (by decide) (by decide) (by decide)).1 (at_c 0 0 (o := 0) (lo := 0) (hi := 2) (by omega) (by decide) (by decide) (by decide)).2
  have h_2 := Inv.g hI_M kd_164 rfl 1 (a := 0) (b := 2) (at_c 1 0 (o := 1) (lo := 0) (hi := 2) (by omega) (by decide) (by decide) (by decide)).1 (at_c 1 0 (o := 1) (lo := 0) (hi := 2) (by omega) (by decide) (by decide) (by decide)).2
  have h_3 := Inv.g hI_M kd_164 rfl 2 (a := 0) (b := 2) (at_c 2 0 (o := 2) (lo := 0) (hi := 2) (by omega) (by decide) (by decide) (by decide)).1 (at_c 2 0 (o := 2) (lo := 0) (hi := 2) (by omega) (by decide) (by decide) (by decide)).2
  refine kx_aload_n 1 F 0 dX12_equal_0 rfl rfl rfl ?_
  refine kx_iload_n 2 F 1 dX12_equal_1 rfl rfl rfl ?_
  refine kx_iload_n 3 F 2 dX12_equal_2 rfl rfl rfl ?_
  refine kx_Vi 6 (ci := 0) F (As := [vI a1, vI a2]) (st := []) vd_X12_313 (c_X12_areTwo G l M a1 a2 hI_M (by omega)) kd_163 rfl rfl rfl ⟨by decide, by decide⟩ rfl rfl (Nat.le_of_ble_eq_true rfl) dX12_equal_3 rfl ?_
  intro r_4 N_5 q_6
  obtain ⟨rfl, q_6c⟩ := q_6
  rcases q_6c with q_6c | q_6c
  · refine kx_if_ne 9 F 15 dX12_equal_6 (by decide) rfl (by omega) (fun h_7 => ?_) (fun h_7 => (by exfalso; omega))
    refine kx_aload_n 16 F 0 dX12_equal_15 rfl rfl rfl ?_
    refine kx_iload_n 17 F 1 dX12_equal_16 rfl rfl rfl ?_
    refine kx_Vi 20 (ci := 0) F (As := [vI a1]) (st := []) vd_X12_422 (e_laysTable G l M a1 hI_M (by omega)) kd_163 rfl rfl rfl ⟨by decide, by decide⟩ rfl rfl (Nat.le_of_ble_eq_true rfl) dX12_equal_17 rfl ?_
    intro r_8 N_9 q_10
    obtain ⟨hI_N_9, hG_N_9, q_10c, hc_N_9⟩ := q_10
    have hF_N_9 : Fr f_e_equal M N_9 := Fr.c hF_M hG_N_9 rfl
    have h_11 := Inv.g hI_N_9 kd_163 rfl 35 (a := 0) (b := 41) rfl rfl
    rcases q_10c with q_10c | q_10c
    · refine kx_if_eq 23 F 31 dX12_equal_20 (by decide) rfl (by omega) (fun h_12 => (by exfalso; omega)) (fun h_12 => ?_)
      refine kx_aload_n 24 F 0 dX12_equal_23 rfl rfl rfl ?_
      refine kx_iload_n 25 F 2 dX12_equal_24 rfl rfl rfl ?_
      refine kx_Vi 28 (ci := 0) F (As := [vI a2]) (st := []) vd_X12_422 (e_laysTable G l N_9 a2 hI_N_9 (by omega)) kd_163 rfl rfl rfl ⟨by decide, by decide⟩ rfl rfl (Nat.le_of_ble_eq_true rfl) dX12_equal_25 rfl ?_
      intro r_13 N_14 q_15
      obtain ⟨hI_N_14, hG_N_14, q_15c, hc_N_14⟩ := q_15
      have hF_N_14 : Fr f_e_equal M N_14 := Fr.c hF_N_9 hG_N_14 rfl
      have h_16 := Inv.g hI_N_14 kd_163 rfl 35 (a := 0) (b := 41) rfl rfl
      rcases q_15c with q_15c | q_15c
      · refine kx_if_ne 31 F 38 dX12_equal_28 (by decide) rfl (by omega) (fun h_17 => ?_) (fun h_17 => (by exfalso; omega))
        refine kx_aload_n 39 F 0 dX12_equal_38 rfl rfl rfl ?_
        refine kx_aload_n 40 F 0 dX12_equal_39 rfl rfl rfl ?_
        refine kx_iload_n 41 F 1 dX12_equal_40 rfl rfl rfl ?_
        refine kx_iload_n 42 F 2 dX12_equal_41 rfl rfl rfl ?_
        have hb_18 : Clo (N_14 164) a2 := by rw [show N_14 164 = N_9 164 from funext (fun j => by rw [Fr.e hG_N_14 kd_164 _ rfl])]; exact hc_N_14 (by omega)
        refine kx_Vi 45 (ci := 0) F (As := [vI a1, vI a2]) (st := [vR G 163]) vd_X12_503 (e_partingOf G l N_14 a1 a2 hI_N_14 (by omega) (YY.fr (YY.fr hY hG_N_9 rfl) hG_N_14 rfl) hb_18) kd_163 rfl rfl rfl ⟨by decide, by decide⟩ rfl rfl (Nat.le_of_ble_eq_true rfl) dX12_equal_42 rfl ?_
        intro r_19 N_20 q_21
        obtain ⟨hI_N_20, hG_N_20, q_21c⟩ := q_21
        have hF_N_20 : Fr f_e_equal M N_20 := Fr.c hF_N_14 hG_N_20 rfl
        refine kx_iconst 46 F dX12_equal_45 rfl ?_
        refine kx_icmp_ne 49 F 63 dX12_equal_46 (by decide) rfl (by omega) (by decide) (fun h_22 => ?_) (fun h_22 => ?_)
        · refine kx_iconst 64 F dX12_equal_63 rfl ?_
          refine kx_Vi 67 (ci := 0) F (As := [vI 0]) (st := []) vd_X12_127 (c_X12_gives G l N_20 0 hI_N_20 (by omega)) kd_163 rfl rfl rfl ⟨by decide, by decide⟩ rfl rfl (Nat.le_of_ble_eq_true rfl) dX12_equal_64 rfl ?_
          intro r_23 N_24 q_25
          obtain ⟨hI_N_24, hG_N_24, q_25c⟩ := q_25
          have hF_N_24 : Fr f_e_equal M N_24 := Fr.c hF_N_20 hG_N_24 rfl
          refine kx_topi (e' := 0) (by omega) ?_
          exact kx_iret F hQ ⟨hI_N_24, hF_N_24, (by omega), (YY.fr (YY.fr (YY.fr (YY.fr hY hG_N_9 rfl) hG_N_14 rfl) hG_N_20 rfl) hG_N_24 rfl)⟩ dX12_equal_67
        · refine kx_aload_n 50 F 0 dX12_equal_49 rfl rfl rfl ?_
          refine kx_iload_n 51 F 2 dX12_equal_50 rfl rfl rfl ?_
          refine kx_iload_n 52 F 1 dX12_equal_51 rfl rfl rfl ?_
          have hb_26 : Clo (N_20 164) a1 := by rw [show N_20 164 = M 164 from funext (fun j => by rw [Fr.e hG_N_20 kd_164 _ rfl, Fr.e hG_N_14 kd_164 _ rfl, Fr.e hG_N_9 kd_164 _ rfl])]; exact hc_N_9 (by omega)
          refine kx_Vi 55 (ci := 0) F (As := [vI a2, vI a1]) (st := [vR G 163]) vd_X12_503 (e_partingOf G l N_20 a2 a1 hI_N_20 (by omega) (YY.fr (YY.fr (YY.fr hY hG_N_9 rfl) hG_N_14 rfl) hG_N_20 rfl) hb_26) kd_163 rfl rfl rfl ⟨by decide, by decide⟩ rfl rfl (Nat.le_of_ble_eq_true rfl) dX12_equal_52 rfl ?_
          intro r_27 N_28 q_29
          obtain ⟨hI_N_28, hG_N_28, q_29c⟩ := q_29
          have hF_N_28 : Fr f_e_equal M N_28 := Fr.c hF_N_20 hG_N_28 rfl
          refine kx_iconst 56 F dX12_equal_55 rfl ?_
          refine kx_icmp_ne 59 F 63 dX12_equal_56 (by decide) rfl (by omega) (by decide) (fun h_30 => ?_) (fun h_30 => ?_)
          · refine kx_iconst 64 F dX12_equal_63 rfl ?_
            refine kx_Vi 67 (ci := 0) F (As := [vI 0]) (st := []) vd_X12_127 (c_X12_gives G l N_28 0 hI_N_28 (by omega)) kd_163 rfl rfl rfl ⟨by decide, by decide⟩ rfl rfl (Nat.le_of_ble_eq_true rfl) dX12_equal_64 rfl ?_
            intro r_31 N_32 q_33
            obtain ⟨hI_N_32, hG_N_32, q_33c⟩ := q_33
            have hF_N_32 : Fr f_e_equal M N_32 := Fr.c hF_N_28 hG_N_32 rfl
            refine kx_topi (e' := 0) (by omega) ?_
            exact kx_iret F hQ ⟨hI_N_32, hF_N_32, (by omega), (YY.fr (YY.fr (YY.fr (YY.fr (YY.fr hY hG_N_9 rfl) hG_N_14 rfl) hG_N_20 rfl) hG_N_28 rfl) hG_N_32 rfl)⟩ dX12_equal_67
          · refine kx_iconst 60 F dX12_equal_59 rfl ?_
            refine kx_goto 64 F dX12_equal_60 (by decide) ?_
            refine kx_Vi 67 (ci := 0) F (As := [vI 1]) (st := []) vd_X12_127 (c_X12_gives G l N_28 1 hI_N_28 (by omega)) kd_163 rfl rfl rfl ⟨by decide, by decide⟩ rfl rfl (Nat.le_of_ble_eq_true rfl) dX12_equal_64 rfl ?_
            intro r_34 N_35 q_36
            obtain ⟨hI_N_35, hG_N_35, q_36c⟩ := q_36
            have hF_N_35 : Fr f_e_equal M N_35 := Fr.c hF_N_28 hG_N_35 rfl
            refine kx_topi (e' := 1) (by omega) ?_
            exact kx_iret F hQ ⟨hI_N_35, hF_N_35, (by omega), (YY.fr (YY.fr (YY.fr (YY.fr (YY.fr hY hG_N_9 rfl) hG_N_14 rfl) hG_N_20 rfl) hG_N_28 rfl) hG_N_35 rfl)⟩ dX12_equal_67
      · refine kx_if_ne 31 F 38 dX12_equal_28 (by decide) rfl (by omega) (fun h_37 => (by exfalso; omega)) (fun h_37 => ?_)
        refine kx_aload_n 32 F 0 dX12_equal_31 rfl rfl rfl ?_
        refine kx_bipush 34 F dX12_equal_32 (by decide) rfl ?_
        refine kx_Vi 37 (ci := 0) F (As := [vI 7]) (st := []) vd_X12_123 (c_X12_refuse G l N_14 7 hI_N_14 (by omega)) kd_163 rfl rfl rfl ⟨by decide, by decide⟩ rfl rfl (Nat.le_of_ble_eq_true rfl) dX12_equal_34 rfl ?_
        intro r_38 N_39 q_40
        obtain ⟨hI_N_39, hG_N_39, q_40c⟩ := q_40
        have hF_N_39 : Fr f_e_equal M N_39 := Fr.c hF_N_14 hG_N_39 rfl
        subst q_40c
        exact kx_iret F hQ ⟨hI_N_39, hF_N_39, (by omega), (YY.fr (YY.fr (YY.fr hY hG_N_9 rfl) hG_N_14 rfl) hG_N_39 rfl)⟩ dX12_equal_37
    · refine kx_if_eq 23 F 31 dX12_equal_20 (by decide) rfl (by omega) (fun h_41 => ?_) (fun h_41 => (by exfalso; omega))
      refine kx_aload_n 32 F 0 dX12_equal_31 rfl rfl rfl ?_
      refine kx_bipush 34 F dX12_equal_32 (by decide) rfl ?_
      refine kx_Vi 37 (ci := 0) F (As := [vI 7]) (st := []) vd_X12_123 (c_X12_refuse G l N_9 7 hI_N_9 (by omega)) kd_163 rfl rfl rfl ⟨by decide, by decide⟩ rfl rfl (Nat.le_of_ble_eq_true rfl) dX12_equal_34 rfl ?_
      intro r_42 N_43 q_44
      obtain ⟨hI_N_43, hG_N_43, q_44c⟩ := q_44
      have hF_N_43 : Fr f_e_equal M N_43 := Fr.c hF_N_9 hG_N_43 rfl
      subst q_44c
      exact kx_iret F hQ ⟨hI_N_43, hF_N_43, (by omega), (YY.fr (YY.fr hY hG_N_9 rfl) hG_N_43 rfl)⟩ dX12_equal_37
  · refine kx_if_ne 9 F 15 dX12_equal_6 (by decide) rfl (by omega) (fun h_45 => (by exfalso; omega)) (fun h_45 => ?_)
    refine kx_aload_n 10 F 0 dX12_equal_9 rfl rfl rfl ?_
    refine kx_iconst 11 F dX12_equal_10 rfl ?_
    refine kx_Vi 14 (ci := 0) F (As := [vI 1]) (st := []) vd_X12_123 (c_X12_refuse G l M 1 hI_M (by omega)) kd_163 rfl rfl rfl ⟨by decide, by decide⟩ rfl rfl (Nat.le_of_ble_eq_true rfl) dX12_equal_11 rfl ?_
    intro r_46 N_47 q_48
    obtain ⟨hI_N_47, hG_N_47, q_48c⟩ := q_48
    have hF_N_47 : Fr f_e_equal M N_47 := Fr.c hF_M hG_N_47 rfl
    subst q_48c
    exact kx_iret F hQ ⟨hI_N_47, hF_N_47, (by omega), (YY.fr hY hG_N_47 rfl)⟩ dX12_equal_14
