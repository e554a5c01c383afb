set_option maxRecDepth 100000 in
theorem dGR_25_c_794 : (decode cX12_fails 0 = .ok (.aload_n 0, 1)) ∧ (decode cX12_fails 1 = .ok (.getfield 193, 3)) ∧ (decode cX12_fails 4 = .ok (.ifCond .ne 28, 3)) ∧ (decode cX12_fails 7 = .ok (.aload_n 0, 1)) ∧ (decode cX12_fails 8 = .ok (.aload_n 0, 1)) ∧ (decode cX12_fails 9 = .ok (.getfield 168, 3)) ∧ (decode cX12_fails 12 = .ok (.iconst 1, 1)) ∧ (decode cX12_fails 13 = .ok (.if_icmp .ne 7, 3)) ∧ (decode cX12_fails 16 = .ok (.iconst 1, 1)) ∧ (decode cX12_fails 17 = .ok (.goto 4, 3)) ∧ (decode cX12_fails 20 = .ok (.iload_n 1, 1)) ∧ (decode cX12_fails 21 = .ok (.putfield 193, 3)) := by decide +kernel
theorem dX12_fails_0 : decode cX12_fails 0 = .ok (.aload_n 0, 1) := dGR_25_c_794.1
theorem dX12_fails_1 : decode cX12_fails 1 = .ok (.getfield 193, 3) := dGR_25_c_794.2.1
theorem dX12_fails_4 : decode cX12_fails 4 = .ok (.ifCond .ne 28, 3) := dGR_25_c_794.2.2.1
theorem dX12_fails_7 : decode cX12_fails 7 = .ok (.aload_n 0, 1) := dGR_25_c_794.2.2.2.1
theorem dX12_fails_8 : decode cX12_fails 8 = .ok (.aload_n 0, 1) := dGR_25_c_794.2.2.2.2.1
theorem dX12_fails_9 : decode cX12_fails 9 = .ok (.getfield 168, 3) := dGR_25_c_794.2.2.2.2.2.1
theorem dX12_fails_12 : decode cX12_fails 12 = .ok (.iconst 1, 1) := dGR_25_c_794.2.2.2.2.2.2.1
theorem dX12_fails_13 : decode cX12_fails 13 = .ok (.if_icmp .ne 7, 3) := dGR_25_c_794.2.2.2.2.2.2.2.1
theorem dX12_fails_16 : decode cX12_fails 16 = .ok (.iconst 1, 1) := dGR_25_c_794.2.2.2.2.2.2.2.2.1
theorem dX12_fails_17 : decode cX12_fails 17 = .ok (.goto 4, 3) := dGR_25_c_794.2.2.2.2.2.2.2.2.2.1
theorem dX12_fails_20 : decode cX12_fails 20 = .ok (.iload_n 1, 1) := dGR_25_c_794.2.2.2.2.2.2.2.2.2.2.1
theorem dX12_fails_21 : decode cX12_fails 21 = .ok (.putfield 193, 3) := dGR_25_c_794.2.2.2.2.2.2.2.2.2.2.2
set_option maxRecDepth 100000 in
theorem dGR_25_c_795 : (decode cX12_fails 24 = .ok (.aload_n 0, 1)) ∧ (decode cX12_fails 25 = .ok (.aload_n 0, 1)) ∧ (decode cX12_fails 26 = .ok (.getfield 162, 3)) ∧ (decode cX12_fails 29 = .ok (.putfield 41, 3)) ∧ (decode cX12_fails 32 = .ok (.iconst 0, 1)) ∧ (decode cX12_fails 33 = .ok (.ireturn, 1)) := by decide +kernel
theorem dX12_fails_24 : decode cX12_fails 24 = .ok (.aload_n 0, 1) := dGR_25_c_795.1
theorem dX12_fails_25 : decode cX12_fails 25 = .ok (.aload_n 0, 1) := dGR_25_c_795.2.1
theorem dX12_fails_26 : decode cX12_fails 26 = .ok (.getfield 162, 3) := dGR_25_c_795.2.2.1
theorem dX12_fails_29 : decode cX12_fails 29 = .ok (.putfield 41, 3) := dGR_25_c_795.2.2.2.1
theorem dX12_fails_32 : decode cX12_fails 32 = .ok (.iconst 0, 1) := dGR_25_c_795.2.2.2.2.1
theorem dX12_fails_33 : decode cX12_fails 33 = .ok (.ireturn, 1) := dGR_25_c_795.2.2.2.2.2
set_option maxRecDepth 100000 in
theorem dGR_25_c_796 : (decode cX12_inWords 0 = .ok (.aload_n 0, 1)) ∧ (decode cX12_inWords 1 = .ok (.getfield 168, 3)) ∧ (decode cX12_inWords 4 = .ok (.iconst 2, 1)) ∧ (decode cX12_inWords 5 = .ok (.if_icmp .eq 5, 3)) ∧ (decode cX12_inWords 8 = .ok (.iconst (-1), 1)) ∧ (decode cX12_inWords 9 = .ok (.ireturn, 1)) ∧ (decode cX12_inWords 10 = .ok (.iconst 0, 1)) ∧ (decode cX12_inWords 11 = .ok (.istore_n 2, 1)) ∧ (decode cX12_inWords 12 = .ok (.iconst 1, 1)) ∧ (decode cX12_inWords 13 = .ok (.istore_n 3, 1)) ∧ (decode cX12_inWords 14 = .ok (.iload_n 3, 1)) ∧ (decode cX12_inWords 15 = .ok (.aload_n 1, 1)) := by decide +kernel
theorem dX12_inWords_0 : decode cX12_inWords 0 = .ok (.aload_n 0, 1) := dGR_25_c_796.1
theorem dX12_inWords_1 : decode cX12_inWords 1 = .ok (.getfield 168, 3) := dGR_25_c_796.2.1
theorem dX12_inWords_4 : decode cX12_inWords 4 = .ok (.iconst 2, 1) := dGR_25_c_796.2.2.1
theorem dX12_inWords_5 : decode cX12_inWords 5 = .ok (.if_icmp .eq 5, 3) := dGR_25_c_796.2.2.2.1
theorem dX12_inWords_8 : decode cX12_inWords 8 = .ok (.iconst (-1), 1) := dGR_25_c_796.2.2.2.2.1
theorem dX12_inWords_9 : decode cX12_inWords 9 = .ok (.ireturn, 1) := dGR_25_c_796.2.2.2.2.2.1
theorem dX12_inWords_10 : decode cX12_inWords 10 = .ok (.iconst 0, 1) := dGR_25_c_796.2.2.2.2.2.2.1
theorem dX12_inWords_11 : decode cX12_inWords 11 = .ok (.istore_n 2, 1) := dGR_25_c_796.2.2.2.2.2.2.2.1
theorem dX12_inWords_12 : decode cX12_inWords 12 = .ok (.iconst 1, 1) := dGR_25_c_796.2.2.2.2.2.2.2.2.1
theorem dX12_inWords_13 : decode cX12_inWords 13 = .ok (.istore_n 3, 1) := dGR_25_c_796.2.2.2.2.2.2.2.2.2.1
theorem dX12_inWords_14 : decode cX12_inWords 14 = .ok (.iload_n 3, 1) := dGR_25_c_796.2.2.2.2.2.2.2.2.2.2.1
theorem dX12_inWords_15 : decode cX12_inWords 15 = .ok (.aload_n 1, 1) := dGR_25_c_796.2.2.2.2.2.2.2.2.2.2.2
set_option maxRecDepth 100000 in
theorem dGR_25_c_797 : (decode cX12_inWords 16 = .ok (.invokevirtual 183, 3)) ∧ (decode cX12_inWords 19 = .ok (.if_icmp .ge 114, 3)) ∧ (decode cX12_inWords 22 = .ok (.iload_n 3, 1)) ∧ (decode cX12_inWords 23 = .ok (.istore 4, 2)) ∧ (decode cX12_inWords 25 = .ok (.aload_n 1, 1)) ∧ (decode cX12_inWords 26 = .ok (.iload 4, 2)) ∧ (decode cX12_inWords 28 = .ok (.invokevirtual 189, 3)) ∧ (decode cX12_inWords 31 = .ok (.bipush 32, 2)) ∧ (decode cX12_inWords 33 = .ok (.if_icmp .eq 9, 3)) ∧ (decode cX12_inWords 36 = .ok (.iinc 4 1, 3)) ∧ (decode cX12_inWords 39 = .ok (.goto (-14), 3)) ∧ (decode cX12_inWords 42 = .ok (.iload 4, 2)) := by decide +kernel
theorem dX12_inWords_16 : decode cX12_inWords 16 = .ok (.invokevirtual 183, 3) := dGR_25_c_797.1
theorem dX12_inWords_19 : decode cX12_inWords 19 = .ok (.if_icmp .ge 114, 3) := dGR_25_c_797.2.1
theorem dX12_inWords_22 : decode cX12_inWords 22 = .ok (.iload_n 3, 1) := dGR_25_c_797.2.2.1
theorem dX12_inWords_23 : decode cX12_inWords 23 = .ok (.istore 4, 2) := dGR_25_c_797.2.2.2.1
theorem dX12_inWords_25 : decode cX12_inWords 25 = .ok (.aload_n 1, 1) := dGR_25_c_797.2.2.2.2.1
theorem dX12_inWords_26 : decode cX12_inWords 26 = .ok (.iload 4, 2) := dGR_25_c_797.2.2.2.2.2.1
theorem dX12_inWords_28 : decode cX12_inWords 28 = .ok (.invokevirtual 189, 3) := dGR_25_c_797.2.2.2.2.2.2.1
theorem dX12_inWords_31 : decode cX12_inWords 31 = .ok (.bipush 32, 2) := dGR_25_c_797.2.2.2.2.2.2.2.1
theorem dX12_inWords_33 : decode cX12_inWords 33 = .ok (.if_icmp .eq 9, 3) := dGR_25_c_797.2.2.2.2.2.2.2.2.1
theorem dX12_inWords_36 : decode cX12_inWords 36 = .ok (.iinc 4 1, 3) := dGR_25_c_797.2.2.2.2.2.2.2.2.2.1
theorem dX12_inWords_39 : decode cX12_inWords 39 = .ok (.goto (-14), 3) := dGR_25_c_797.2.2.2.2.2.2.2.2.2.2.1
theorem dX12_inWords_42 : decode cX12_inWords 42 = .ok (.iload 4, 2) := dGR_25_c_797.2.2.2.2.2.2.2.2.2.2.2
set_option maxRecDepth 100000 in
theorem dGR_25_c_798 : (decode cX12_inWords 44 = .ok (.iload_n 3, 1)) ∧ (decode cX12_inWords 45 = .ok (.isub, 1)) ∧ (decode cX12_inWords 46 = .ok (.aload_n 0, 1)) ∧ (decode cX12_inWords 47 = .ok (.getfield 156, 3)) ∧ (decode cX12_inWords 50 = .ok (.aload_n 0, 1)) ∧ (decode cX12_inWords 51 = .ok (.getfield 162, 3)) ∧ (decode cX12_inWords 54 = .ok (.isub, 1)) ∧ (decode cX12_inWords 55 = .ok (.if_icmp .ne 7, 3)) ∧ (decode cX12_inWords 58 = .ok (.iconst 1, 1)) ∧ (decode cX12_inWords 59 = .ok (.goto 4, 3)) ∧ (decode cX12_inWords 62 = .ok (.iconst 0, 1)) ∧ (decode cX12_inWords 63 = .ok (.istore 5, 2)) := by decide +kernel
theorem dX12_inWords_44 : decode cX12_inWords 44 = .ok (.iload_n 3, 1) := dGR_25_c_798.1
theorem dX12_inWords_45 : decode cX12_inWords 45 = .ok (.isub, 1) := dGR_25_c_798.2.1
theorem dX12_inWords_46 : decode cX12_inWords 46 = .ok (.aload_n 0, 1) := dGR_25_c_798.2.2.1
theorem dX12_inWords_47 : decode cX12_inWords 47 = .ok (.getfield 156, 3) := dGR_25_c_798.2.2.2.1
theorem dX12_inWords_50 : decode cX12_inWords 50 = .ok (.aload_n 0, 1) := dGR_25_c_798.2.2.2.2.1
theorem dX12_inWords_51 : decode cX12_inWords 51 = .ok (.getfield 162, 3) := dGR_25_c_798.2.2.2.2.2.1
theorem dX12_inWords_54 : decode cX12_inWords 54 = .ok (.isub, 1) := dGR_25_c_798.2.2.2.2.2.2.1
theorem dX12_inWords_55 : decode cX12_inWords 55 = .ok (.if_icmp .ne 7, 3) := dGR_25_c_798.2.2.2.2.2.2.2.1
theorem dX12_inWords_58 : decode cX12_inWords 58 = .ok (.iconst 1, 1) := dGR_25_c_798.2.2.2.2.2.2.2.2.1
theorem dX12_inWords_59 : decode cX12_inWords 59 = .ok (.goto 4, 3) := dGR_25_c_798.2.2.2.2.2.2.2.2.2.1
theorem dX12_inWords_62 : decode cX12_inWords 62 = .ok (.iconst 0, 1) := dGR_25_c_798.2.2.2.2.2.2.2.2.2.2.1
theorem dX12_inWords_63 : decode cX12_inWords 63 = .ok (.istore 5, 2) := dGR_25_c_798.2.2.2.2.2.2.2.2.2.2.2
set_option maxRecDepth 100000 in
theorem dGR_25_c_799 : (decode cX12_inWords 65 = .ok (.iload_n 3, 1)) ∧ (decode cX12_inWords 66 = .ok (.istore 6, 2)) ∧ (decode cX12_inWords 68 = .ok (.iload 6, 2)) ∧ (decode cX12_inWords 70 = .ok (.iload 4, 2)) ∧ (decode cX12_inWords 72 = .ok (.if_icmp .ge 43, 3)) ∧ (decode cX12_inWords 75 = .ok (.iload 5, 2)) ∧ (decode cX12_inWords 77 = .ok (.ifCond .eq 38, 3)) ∧ (decode cX12_inWords 80 = .ok (.aload_n 1, 1)) ∧ (decode cX12_inWords 81 = .ok (.iload 6, 2)) ∧ (decode cX12_inWords 83 = .ok (.invokevirtual 189, 3)) ∧ (decode cX12_inWords 86 = .ok (.aload_n 0, 1)) ∧ (decode cX12_inWords 87 = .ok (.aload_n 0, 1)) := by decide +kernel
theorem dX12_inWords_65 : decode cX12_inWords 65 = .ok (.iload_n 3, 1) := dGR_25_c_799.1
theorem dX12_inWords_66 : decode cX12_inWords 66 = .ok (.istore 6, 2) := dGR_25_c_799.2.1
theorem dX12_inWords_68 : decode cX12_inWords 68 = .ok (.iload 6, 2) := dGR_25_c_799.2.2.1
theorem dX12_inWords_70 : decode cX12_inWords 70 = .ok (.iload 4, 2) := dGR_25_c_799.2.2.2.1
theorem dX12_inWords_72 : decode cX12_inWords 72 = .ok (.if_icmp .ge 43, 3) := dGR_25_c_799.2.2.2.2.1
theorem dX12_inWords_75 : decode cX12_inWords 75 = .ok (.iload 5, 2) := dGR_25_c_799.2.2.2.2.2.1
theorem dX12_inWords_77 : decode cX12_inWords 77 = .ok (.ifCond .eq 38, 3) := dGR_25_c_799.2.2.2.2.2.2.1
theorem dX12_inWords_80 : decode cX12_inWords 80 = .ok (.aload_n 1, 1) := dGR_25_c_799.2.2.2.2.2.2.2.1
theorem dX12_inWords_81 : decode cX12_inWords 81 = .ok (.iload 6, 2) := dGR_25_c_799.2.2.2.2.2.2.2.2.1
theorem dX12_inWords_83 : decode cX12_inWords 83 = .ok (.invokevirtual 189, 3) := dGR_25_c_799.2.2.2.2.2.2.2.2.2.1
theorem dX12_inWords_86 : decode cX12_inWords 86 = .ok (.aload_n 0, 1) := dGR_25_c_799.2.2.2.2.2.2.2.2.2.2.1
theorem dX12_inWords_87 : decode cX12_inWords 87 = .ok (.aload_n 0, 1) := dGR_25_c_799.2.2.2.2.2.2.2.2.2.2.2
set_option maxRecDepth 100000 in
theorem dGR_25_c_800 : (decode cX12_inWords 88 = .ok (.getfield 162, 3)) ∧ (decode cX12_inWords 91 = .ok (.iload 6, 2)) ∧ (decode cX12_inWords 93 = .ok (.iadd, 1)) ∧ (decode cX12_inWords 94 = .ok (.iload_n 3, 1)) ∧ (decode cX12_inWords 95 = .ok (.isub, 1)) ∧ (decode cX12_inWords 96 = .ok (.invokevirtual 159, 3)) ∧ (decode cX12_inWords 99 = .ok (.if_icmp .ne 7, 3)) ∧ (decode cX12_inWords 102 = .ok (.iconst 1, 1)) ∧ (decode cX12_inWords 103 = .ok (.goto 4, 3)) ∧ (decode cX12_inWords 106 = .ok (.iconst 0, 1)) ∧ (decode cX12_inWords 107 = .ok (.istore 5, 2)) ∧ (decode cX12_inWords 109 = .ok (.iinc 6 1, 3)) := by decide +kernel
theorem dX12_inWords_88 : decode cX12_inWords 88 = .ok (.getfield 162, 3) := dGR_25_c_800.1
theorem dX12_inWords_91 : decode cX12_inWords 91 = .ok (.iload 6, 2) := dGR_25_c_800.2.1
theorem dX12_inWords_93 : decode cX12_inWords 93 = .ok (.iadd, 1) := dGR_25_c_800.2.2.1
theorem dX12_inWords_94 : decode cX12_inWords 94 = .ok (.iload_n 3, 1) := dGR_25_c_800.2.2.2.1
theorem dX12_inWords_95 : decode cX12_inWords 95 = .ok (.isub, 1) := dGR_25_c_800.2.2.2.2.1
theorem dX12_inWords_96 : decode cX12_inWords 96 = .ok (.invokevirtual 159, 3) := dGR_25_c_800.2.2.2.2.2.1
theorem dX12_inWords_99 : decode cX12_inWords 99 = .ok (.if_icmp .ne 7, 3) := dGR_25_c_800.2.2.2.2.2.2.1
theorem dX12_inWords_102 : decode cX12_inWords 102 = .ok (.iconst 1, 1) := dGR_25_c_800.2.2.2.2.2.2.2.1
theorem dX12_inWords_103 : decode cX12_inWords 103 = .ok (.goto 4, 3) := dGR_25_c_800.2.2.2.2.2.2.2.2.1
theorem dX12_inWords_106 : decode cX12_inWords 106 = .ok (.iconst 0, 1) := dGR_25_c_800.2.2.2.2.2.2.2.2.2.1
theorem dX12_inWords_107 : decode cX12_inWords 107 = .ok (.istore 5, 2) := dGR_25_c_800.2.2.2.2.2.2.2.2.2.2.1
theorem dX12_inWords_109 : decode cX12_inWords 109 = .ok (.iinc 6 1, 3) := dGR_25_c_800.2.2.2.2.2.2.2.2.2.2.2
set_option maxRecDepth 100000 in
theorem dGR_25_c_801 : (decode cX12_inWords 112 = .ok (.goto (-44), 3)) ∧ (decode cX12_inWords 115 = .ok (.iload 5, 2)) ∧ (decode cX12_inWords 117 = .ok (.ifCond .eq 5, 3)) ∧ (decode cX12_inWords 120 = .ok (.iload_n 2, 1)) ∧ (decode cX12_inWords 121 = .ok (.ireturn, 1)) ∧ (decode cX12_inWords 122 = .ok (.iinc 2 1, 3)) ∧ (decode cX12_inWords 125 = .ok (.iload 4, 2)) ∧ (decode cX12_inWords 127 = .ok (.iconst 1, 1)) ∧ (decode cX12_inWords 128 = .ok (.iadd, 1)) ∧ (decode cX12_inWords 129 = .ok (.istore_n 3, 1)) ∧ (decode cX12_inWords 130 = .ok (.goto (-116), 3)) ∧ (decode cX12_inWords 133 = .ok (.iconst (-1), 1)) := by decide +kernel
theorem dX12_inWords_112 : decode cX12_inWords 112 = .ok (.goto (-44), 3) := dGR_25_c_801.1
theorem dX12_inWords_115 : decode cX12_inWords 115 = .ok (.iload 5, 2) := dGR_25_c_801.2.1
theorem dX12_inWords_117 : decode cX12_inWords 117 = .ok (.ifCond .eq 5, 3) := dGR_25_c_801.2.2.1
theorem dX12_inWords_120 : decode cX12_inWords 120 = .ok (.iload_n 2, 1) := dGR_25_c_801.2.2.2.1
theorem dX12_inWords_121 : decode cX12_inWords 121 = .ok (.ireturn, 1) := dGR_25_c_801.2.2.2.2.1
theorem dX12_inWords_122 : decode cX12_inWords 122 = .ok (.iinc 2 1, 3) := dGR_25_c_801.2.2.2.2.2.1
theorem dX12_inWords_125 : decode cX12_inWords 125 = .ok (.iload 4, 2) := dGR_25_c_801.2.2.2.2.2.2.1
theorem dX12_inWords_127 : decode cX12_inWords 127 = .ok (.iconst 1, 1) := dGR_25_c_801.2.2.2.2.2.2.2.1
theorem dX12_inWords_128 : decode cX12_inWords 128 = .ok (.iadd, 1) := dGR_25_c_801.2.2.2.2.2.2.2.2.1
theorem dX12_inWords_129 : decode cX12_inWords 129 = .ok (.istore_n 3, 1) := dGR_25_c_801.2.2.2.2.2.2.2.2.2.1
theorem dX12_inWords_130 : decode cX12_inWords 130 = .ok (.goto (-116), 3) := dGR_25_c_801.2.2.2.2.2.2.2.2.2.2.1
theorem dX12_inWords_133 : decode cX12_inWords 133 = .ok (.iconst (-1), 1) := dGR_25_c_801.2.2.2.2.2.2.2.2.2.2.2
theorem dX12_inWords_134 : decode cX12_inWords 134 = .ok (.ireturn, 1) := by decide +kernel
set_option maxRecDepth 100000 in
theorem dGR_25_c_802 : (decode cX12_begins 0 = .ok (.iload_n 1, 1)) ∧ (decode cX12_begins 1 = .ok (.ifCond .lt 16, 3)) ∧ (decode cX12_begins 4 = .ok (.iload_n 1, 1)) ∧ (decode cX12_begins 5 = .ok (.aload_n 0, 1)) ∧ (decode cX12_begins 6 = .ok (.getfield 147, 3)) ∧ (decode cX12_begins 9 = .ok (.if_icmp .gt 8, 3)) ∧ (decode cX12_begins 12 = .ok (.iload_n 1, 1)) ∧ (decode cX12_begins 13 = .ok (.iload_n 2, 1)) ∧ (decode cX12_begins 14 = .ok (.if_icmp .le 5, 3)) ∧ (decode cX12_begins 17 = .ok (.iconst 0, 1)) ∧ (decode cX12_begins 18 = .ok (.ireturn, 1)) ∧ (decode cX12_begins 19 = .ok (.aload_n 0, 1)) := by decide +kernel
theorem dX12_begins_0 : decode cX12_begins 0 = .ok (.iload_n 1, 1) := dGR_25_c_802.1
theorem dX12_begins_1 : decode cX12_begins 1 = .ok (.ifCond .lt 16, 3) := dGR_25_c_802.2.1
theorem dX12_begins_4 : decode cX12_begins 4 = .ok (.iload_n 1, 1) := dGR_25_c_802.2.2.1
theorem dX12_begins_5 : decode cX12_begins 5 = .ok (.aload_n 0, 1) := dGR_25_c_802.2.2.2.1
theorem dX12_begins_6 : decode cX12_begins 6 = .ok (.getfield 147, 3) := dGR_25_c_802.2.2.2.2.1
theorem dX12_begins_9 : decode cX12_begins 9 = .ok (.if_icmp .gt 8, 3) := dGR_25_c_802.2.2.2.2.2.1
theorem dX12_begins_12 : decode cX12_begins 12 = .ok (.iload_n 1, 1) := dGR_25_c_802.2.2.2.2.2.2.1
theorem dX12_begins_13 : decode cX12_begins 13 = .ok (.iload_n 2, 1) := dGR_25_c_802.2.2.2.2.2.2.2.1
theorem dX12_begins_14 : decode cX12_begins 14 = .ok (.if_icmp .le 5, 3) := dGR_25_c_802.2.2.2.2.2.2.2.2.1
theorem dX12_begins_17 : decode cX12_begins 17 = .ok (.iconst 0, 1) := dGR_25_c_802.2.2.2.2.2.2.2.2.2.1
theorem dX12_begins_18 : decode cX12_begins 18 = .ok (.ireturn, 1) := dGR_25_c_802.2.2.2.2.2.2.2.2.2.2.1
theorem dX12_begins_19 : decode cX12_begins 19 = .ok (.aload_n 0, 1) := dGR_25_c_802.2.2.2.2.2.2.2.2.2.2.2
set_option maxRecDepth 100000 in
theorem dGR_25_c_803 : (decode cX12_begins 20 = .ok (.iload_n 1, 1)) ∧ (decode cX12_begins 21 = .ok (.putfield 153, 3)) ∧ (decode cX12_begins 24 = .ok (.iconst 0, 1)) ∧ (decode cX12_begins 25 = .ok (.istore_n 3, 1)) ∧ (decode cX12_begins 26 = .ok (.iload_n 3, 1)) ∧ (decode cX12_begins 27 = .ok (.iload_n 1, 1)) ∧ (decode cX12_begins 28 = .ok (.if_icmp .ge 21, 3)) ∧ (decode cX12_begins 31 = .ok (.aload_n 0, 1)) ∧ (decode cX12_begins 32 = .ok (.getfield 34, 3)) ∧ (decode cX12_begins 35 = .ok (.iload_n 3, 1)) ∧ (decode cX12_begins 36 = .ok (.aload_n 0, 1)) ∧ (decode cX12_begins 37 = .ok (.getfield 30, 3)) := by decide +kernel
theorem dX12_begins_20 : decode cX12_begins 20 = .ok (.iload_n 1, 1) := dGR_25_c_803.1
theorem dX12_begins_21 : decode cX12_begins 21 = .ok (.putfield 153, 3) := dGR_25_c_803.2.1
theorem dX12_begins_24 : decode cX12_begins 24 = .ok (.iconst 0, 1) := dGR_25_c_803.2.2.1
theorem dX12_begins_25 : decode cX12_begins 25 = .ok (.istore_n 3, 1) := dGR_25_c_803.2.2.2.1
theorem dX12_begins_26 : decode cX12_begins 26 = .ok (.iload_n 3, 1) := dGR_25_c_803.2.2.2.2.1
theorem dX12_begins_27 : decode cX12_begins 27 = .ok (.iload_n 1, 1) := dGR_25_c_803.2.2.2.2.2.1
theorem dX12_begins_28 : decode cX12_begins 28 = .ok (.if_icmp .ge 21, 3) := dGR_25_c_803.2.2.2.2.2.2.1
theorem dX12_begins_31 : decode cX12_begins 31 = .ok (.aload_n 0, 1) := dGR_25_c_803.2.2.2.2.2.2.2.1
theorem dX12_begins_32 : decode cX12_begins 32 = .ok (.getfield 34, 3) := dGR_25_c_803.2.2.2.2.2.2.2.2.1
theorem dX12_begins_35 : decode cX12_begins 35 = .ok (.iload_n 3, 1) := dGR_25_c_803.2.2.2.2.2.2.2.2.2.1
theorem dX12_begins_36 : decode cX12_begins 36 = .ok (.aload_n 0, 1) := dGR_25_c_803.2.2.2.2.2.2.2.2.2.2.1
theorem dX12_begins_37 : decode cX12_begins 37 = .ok (.getfield 30, 3) := dGR_25_c_803.2.2.2.2.2.2.2.2.2.2.2
set_option maxRecDepth 100000 in
theorem dGR_25_c_804 : (decode cX12_begins 40 = .ok (.iload_n 3, 1)) ∧ (decode cX12_begins 41 = .ok (.baload, 1)) ∧ (decode cX12_begins 42 = .ok (.bastore, 1)) ∧ (decode cX12_begins 43 = .ok (.iinc 3 1, 3)) ∧ (decode cX12_begins 46 = .ok (.goto (-20), 3)) ∧ (decode cX12_begins 49 = .ok (.aload_n 0, 1)) ∧ (decode cX12_begins 50 = .ok (.iconst 0, 1)) ∧ (decode cX12_begins 51 = .ok (.putfield 147, 3)) ∧ (decode cX12_begins 54 = .ok (.aload_n 0, 1)) ∧ (decode cX12_begins 55 = .ok (.iconst 0, 1)) ∧ (decode cX12_begins 56 = .ok (.putfield 193, 3)) ∧ (decode cX12_begins 59 = .ok (.aload_n 0, 1)) := by decide +kernel
theorem dX12_begins_40 : decode cX12_begins 40 = .ok (.iload_n 3, 1) := dGR_25_c_804.1
theorem dX12_begins_41 : decode cX12_begins 41 = .ok (.baload, 1) := dGR_25_c_804.2.1
theorem dX12_begins_42 : decode cX12_begins 42 = .ok (.bastore, 1) := dGR_25_c_804.2.2.1
theorem dX12_begins_43 : decode cX12_begins 43 = .ok (.iinc 3 1, 3) := dGR_25_c_804.2.2.2.1
theorem dX12_begins_46 : decode cX12_begins 46 = .ok (.goto (-20), 3) := dGR_25_c_804.2.2.2.2.1
theorem dX12_begins_49 : decode cX12_begins 49 = .ok (.aload_n 0, 1) := dGR_25_c_804.2.2.2.2.2.1
theorem dX12_begins_50 : decode cX12_begins 50 = .ok (.iconst 0, 1) := dGR_25_c_804.2.2.2.2.2.2.1
theorem dX12_begins_51 : decode cX12_begins 51 = .ok (.putfield 147, 3) := dGR_25_c_804.2.2.2.2.2.2.2.1
theorem dX12_begins_54 : decode cX12_begins 54 = .ok (.aload_n 0, 1) := dGR_25_c_804.2.2.2.2.2.2.2.2.1
theorem dX12_begins_55 : decode cX12_begins 55 = .ok (.iconst 0, 1) := dGR_25_c_804.2.2.2.2.2.2.2.2.2.1
theorem dX12_begins_56 : decode cX12_begins 56 = .ok (.putfield 193, 3) := dGR_25_c_804.2.2.2.2.2.2.2.2.2.2.1
theorem dX12_begins_59 : decode cX12_begins 59 = .ok (.aload_n 0, 1) := dGR_25_c_804.2.2.2.2.2.2.2.2.2.2.2
set_option maxRecDepth 100000 in
theorem dGR_25_c_805 : (decode cX12_begins 60 = .ok (.iconst (-1), 1)) ∧ (decode cX12_begins 61 = .ok (.putfield 41, 3)) ∧ (decode cX12_begins 64 = .ok (.aload_n 0, 1)) ∧ (decode cX12_begins 65 = .ok (.iconst 0, 1)) ∧ (decode cX12_begins 66 = .ok (.putfield 156, 3)) ∧ (decode cX12_begins 69 = .ok (.aload_n 0, 1)) ∧ (decode cX12_begins 70 = .ok (.iconst 0, 1)) ∧ (decode cX12_begins 71 = .ok (.putfield 196, 3)) ∧ (decode cX12_begins 74 = .ok (.aload_n 0, 1)) ∧ (decode cX12_begins 75 = .ok (.invokevirtual 199, 3)) ∧ (decode cX12_begins 78 = .ok (.iconst 1, 1)) ∧ (decode cX12_begins 79 = .ok (.ireturn, 1)) := by decide +kernel
theorem dX12_begins_60 : decode cX12_begins 60 = .ok (.iconst (-1), 1) := dGR_25_c_805.1
theorem dX12_begins_61 : decode cX12_begins 61 = .ok (.putfield 41, 3) := dGR_25_c_805.2.1
theorem dX12_begins_64 : decode cX12_begins 64 = .ok (.aload_n 0, 1) := dGR_25_c_805.2.2.1
theorem dX12_begins_65 : decode cX12_begins 65 = .ok (.iconst 0, 1) := dGR_25_c_805.2.2.2.1
theorem dX12_begins_66 : decode cX12_begins 66 = .ok (.putfield 156, 3) := dGR_25_c_805.2.2.2.2.1
theorem dX12_begins_69 : decode cX12_begins 69 = .ok (.aload_n 0, 1) := dGR_25_c_805.2.2.2.2.2.1
theorem dX12_begins_70 : decode cX12_begins 70 = .ok (.iconst 0, 1) := dGR_25_c_805.2.2.2.2.2.2.1
theorem dX12_begins_71 : decode cX12_begins 71 = .ok (.putfield 196, 3) := dGR_25_c_805.2.2.2.2.2.2.2.1
theorem dX12_begins_74 : decode cX12_begins 74 = .ok (.aload_n 0, 1) := dGR_25_c_805.2.2.2.2.2.2.2.2.1
theorem dX12_begins_75 : decode cX12_begins 75 = .ok (.invokevirtual 199, 3) := dGR_25_c_805.2.2.2.2.2.2.2.2.2.1
theorem dX12_begins_78 : decode cX12_begins 78 = .ok (.iconst 1, 1) := dGR_25_c_805.2.2.2.2.2.2.2.2.2.2.1
theorem dX12_begins_79 : decode cX12_begins 79 = .ok (.ireturn, 1) := dGR_25_c_805.2.2.2.2.2.2.2.2.2.2.2
set_option maxRecDepth 100000 in
theorem dGR_25_c_806 : (decode cX12_nameHere 0 = .ok (.lconst 0, 1)) ∧ (decode cX12_nameHere 1 = .ok (.lstore_n 1, 1)) ∧ (decode cX12_nameHere 2 = .ok (.aload_n 0, 1)) ∧ (decode cX12_nameHere 3 = .ok (.getfield 162, 3)) ∧ (decode cX12_nameHere 6 = .ok (.istore_n 3, 1)) ∧ (decode cX12_nameHere 7 = .ok (.iload_n 3, 1)) ∧ (decode cX12_nameHere 8 = .ok (.aload_n 0, 1)) ∧ (decode cX12_nameHere 9 = .ok (.getfield 156, 3)) ∧ (decode cX12_nameHere 12 = .ok (.if_icmp .ge 21, 3)) ∧ (decode cX12_nameHere 15 = .ok (.lload_n 1, 1)) ∧ (decode cX12_nameHere 16 = .ok (.bipush 8, 2)) ∧ (decode cX12_nameHere 18 = .ok (.lshl, 1)) := by decide +kernel
theorem dX12_nameHere_0 : decode cX12_nameHere 0 = .ok (.lconst 0, 1) := dGR_25_c_806.1
theorem dX12_nameHere_1 : decode cX12_nameHere 1 = .ok (.lstore_n 1, 1) := dGR_25_c_806.2.1
theorem dX12_nameHere_2 : decode cX12_nameHere 2 = .ok (.aload_n 0, 1) := dGR_25_c_806.2.2.1
theorem dX12_nameHere_3 : decode cX12_nameHere 3 = .ok (.getfield 162, 3) := dGR_25_c_806.2.2.2.1
theorem dX12_nameHere_6 : decode cX12_nameHere 6 = .ok (.istore_n 3, 1) := dGR_25_c_806.2.2.2.2.1
theorem dX12_nameHere_7 : decode cX12_nameHere 7 = .ok (.iload_n 3, 1) := dGR_25_c_806.2.2.2.2.2.1
theorem dX12_nameHere_8 : decode cX12_nameHere 8 = .ok (.aload_n 0, 1) := dGR_25_c_806.2.2.2.2.2.2.1
theorem dX12_nameHere_9 : decode cX12_nameHere 9 = .ok (.getfield 156, 3) := dGR_25_c_806.2.2.2.2.2.2.2.1
theorem dX12_nameHere_12 : decode cX12_nameHere 12 = .ok (.if_icmp .ge 21, 3) := dGR_25_c_806.2.2.2.2.2.2.2.2.1
theorem dX12_nameHere_15 : decode cX12_nameHere 15 = .ok (.lload_n 1, 1) := dGR_25_c_806.2.2.2.2.2.2.2.2.2.1
theorem dX12_nameHere_16 : decode cX12_nameHere 16 = .ok (.bipush 8, 2) := dGR_25_c_806.2.2.2.2.2.2.2.2.2.2.1
theorem dX12_nameHere_18 : decode cX12_nameHere 18 = .ok (.lshl, 1) := dGR_25_c_806.2.2.2.2.2.2.2.2.2.2.2
set_option maxRecDepth 100000 in
theorem dGR_25_c_807 : (decode cX12_nameHere 19 = .ok (.aload_n 0, 1)) ∧ (decode cX12_nameHere 20 = .ok (.iload_n 3, 1)) ∧ (decode cX12_nameHere 21 = .ok (.invokevirtual 159, 3)) ∧ (decode cX12_nameHere 24 = .ok (.i2l, 1)) ∧ (decode cX12_nameHere 25 = .ok (.lor, 1)) ∧ (decode cX12_nameHere 26 = .ok (.lstore_n 1, 1)) ∧ (decode cX12_nameHere 27 = .ok (.iinc 3 1, 3)) ∧ (decode cX12_nameHere 30 = .ok (.goto (-23), 3)) ∧ (decode cX12_nameHere 33 = .ok (.lload_n 1, 1)) ∧ (decode cX12_nameHere 34 = .ok (.lreturn, 1)) := by decide +kernel
theorem dX12_nameHere_19 : decode cX12_nameHere 19 = .ok (.aload_n 0, 1) := dGR_25_c_807.1
theorem dX12_nameHere_20 : decode cX12_nameHere 20 = .ok (.iload_n 3, 1) := dGR_25_c_807.2.1
theorem dX12_nameHere_21 : decode cX12_nameHere 21 = .ok (.invokevirtual 159, 3) := dGR_25_c_807.2.2.1
theorem dX12_nameHere_24 : decode cX12_nameHere 24 = .ok (.i2l, 1) := dGR_25_c_807.2.2.2.1
theorem dX12_nameHere_25 : decode cX12_nameHere 25 = .ok (.lor, 1) := dGR_25_c_807.2.2.2.2.1
theorem dX12_nameHere_26 : decode cX12_nameHere 26 = .ok (.lstore_n 1, 1) := dGR_25_c_807.2.2.2.2.2.1
theorem dX12_nameHere_27 : decode cX12_nameHere 27 = .ok (.iinc 3 1, 3) := dGR_25_c_807.2.2.2.2.2.2.1
theorem dX12_nameHere_30 : decode cX12_nameHere 30 = .ok (.goto (-23), 3) := dGR_25_c_807.2.2.2.2.2.2.2.1
theorem dX12_nameHere_33 : decode cX12_nameHere 33 = .ok (.lload_n 1, 1) := dGR_25_c_807.2.2.2.2.2.2.2.2.1
theorem dX12_nameHere_34 : decode cX12_nameHere 34 = .ok (.lreturn, 1) := dGR_25_c_807.2.2.2.2.2.2.2.2.2
set_option maxRecDepth 100000 in
theorem dGR_25_c_808 : (decode cX12_findHere 0 = .ok (.iconst 0, 1)) ∧ (decode cX12_findHere 1 = .ok (.istore_n 3, 1)) ∧ (decode cX12_findHere 2 = .ok (.iload_n 3, 1)) ∧ (decode cX12_findHere 3 = .ok (.iload_n 2, 1)) ∧ (decode cX12_findHere 4 = .ok (.if_icmp .ge 27, 3)) ∧ (decode cX12_findHere 7 = .ok (.aload_n 0, 1)) ∧ (decode cX12_findHere 8 = .ok (.getfield 13, 3)) ∧ (decode cX12_findHere 11 = .ok (.iload_n 1, 1)) ∧ (decode cX12_findHere 12 = .ok (.iload_n 3, 1)) ∧ (decode cX12_findHere 13 = .ok (.iadd, 1)) ∧ (decode cX12_findHere 14 = .ok (.laload, 1)) ∧ (decode cX12_findHere 15 = .ok (.aload_n 0, 1)) := by decide +kernel
theorem dX12_findHere_0 : decode cX12_findHere 0 = .ok (.iconst 0, 1) := dGR_25_c_808.1
theorem dX12_findHere_1 : decode cX12_findHere 1 = .ok (.istore_n 3, 1) := dGR_25_c_808.2.1
theorem dX12_findHere_2 : decode cX12_findHere 2 = .ok (.iload_n 3, 1) := dGR_25_c_808.2.2.1
theorem dX12_findHere_3 : decode cX12_findHere 3 = .ok (.iload_n 2, 1) := dGR_25_c_808.2.2.2.1
theorem dX12_findHere_4 : decode cX12_findHere 4 = .ok (.if_icmp .ge 27, 3) := dGR_25_c_808.2.2.2.2.1
theorem dX12_findHere_7 : decode cX12_findHere 7 = .ok (.aload_n 0, 1) := dGR_25_c_808.2.2.2.2.2.1
theorem dX12_findHere_8 : decode cX12_findHere 8 = .ok (.getfield 13, 3) := dGR_25_c_808.2.2.2.2.2.2.1
theorem dX12_findHere_11 : decode cX12_findHere 11 = .ok (.iload_n 1, 1) := dGR_25_c_808.2.2.2.2.2.2.2.1
theorem dX12_findHere_12 : decode cX12_findHere 12 = .ok (.iload_n 3, 1) := dGR_25_c_808.2.2.2.2.2.2.2.2.1
theorem dX12_findHere_13 : decode cX12_findHere 13 = .ok (.iadd, 1) := dGR_25_c_808.2.2.2.2.2.2.2.2.2.1
theorem dX12_findHere_14 : decode cX12_findHere 14 = .ok (.laload, 1) := dGR_25_c_808.2.2.2.2.2.2.2.2.2.2.1
theorem dX12_findHere_15 : decode cX12_findHere 15 = .ok (.aload_n 0, 1) := dGR_25_c_808.2.2.2.2.2.2.2.2.2.2.2
set_option maxRecDepth 100000 in
theorem dGR_25_c_809 : (decode cX12_findHere 16 = .ok (.invokevirtual 212, 3)) ∧ (decode cX12_findHere 19 = .ok (.lcmp, 1)) ∧ (decode cX12_findHere 20 = .ok (.ifCond .ne 5, 3)) ∧ (decode cX12_findHere 23 = .ok (.iload_n 3, 1)) ∧ (decode cX12_findHere 24 = .ok (.ireturn, 1)) ∧ (decode cX12_findHere 25 = .ok (.iinc 3 1, 3)) ∧ (decode cX12_findHere 28 = .ok (.goto (-26), 3)) ∧ (decode cX12_findHere 31 = .ok (.iconst (-1), 1)) ∧ (decode cX12_findHere 32 = .ok (.ireturn, 1)) := by decide +kernel
theorem dX12_findHere_16 : decode cX12_findHere 16 = .ok (.invokevirtual 212, 3) := dGR_25_c_809.1
theorem dX12_findHere_19 : decode cX12_findHere 19 = .ok (.lcmp, 1) := dGR_25_c_809.2.1
theorem dX12_findHere_20 : decode cX12_findHere 20 = .ok (.ifCond .ne 5, 3) := dGR_25_c_809.2.2.1
theorem dX12_findHere_23 : decode cX12_findHere 23 = .ok (.iload_n 3, 1) := dGR_25_c_809.2.2.2.1
theorem dX12_findHere_24 : decode cX12_findHere 24 = .ok (.ireturn, 1) := dGR_25_c_809.2.2.2.2.1
theorem dX12_findHere_25 : decode cX12_findHere 25 = .ok (.iinc 3 1, 3) := dGR_25_c_809.2.2.2.2.2.1
theorem dX12_findHere_28 : decode cX12_findHere 28 = .ok (.goto (-26), 3) := dGR_25_c_809.2.2.2.2.2.2.1
theorem dX12_findHere_31 : decode cX12_findHere 31 = .ok (.iconst (-1), 1) := dGR_25_c_809.2.2.2.2.2.2.2.1
theorem dX12_findHere_32 : decode cX12_findHere 32 = .ok (.ireturn, 1) := dGR_25_c_809.2.2.2.2.2.2.2.2
set_option maxRecDepth 100000 in
theorem dGR_25_c_810 : (decode cX12_taken 0 = .ok (.aload_n 0, 1)) ∧ (decode cX12_taken 1 = .ok (.aload_n 0, 1)) ∧ (decode cX12_taken 2 = .ok (.getfield 193, 3)) ∧ (decode cX12_taken 5 = .ok (.putfield 37, 3)) ∧ (decode cX12_taken 8 = .ok (.aload_n 0, 1)) ∧ (decode cX12_taken 9 = .ok (.getfield 193, 3)) ∧ (decode cX12_taken 12 = .ok (.ifCond .le 12, 3)) ∧ (decode cX12_taken 15 = .ok (.aload_n 0, 1)) ∧ (decode cX12_taken 16 = .ok (.bipush 9, 2)) ∧ (decode cX12_taken 18 = .ok (.invokevirtual 123, 3)) ∧ (decode cX12_taken 21 = .ok (.goto 8, 3)) ∧ (decode cX12_taken 24 = .ok (.aload_n 0, 1)) := by decide +kernel
theorem dX12_taken_0 : decode cX12_taken 0 = .ok (.aload_n 0, 1) := dGR_25_c_810.1
theorem dX12_taken_1 : decode cX12_taken 1 = .ok (.aload_n 0, 1) := dGR_25_c_810.2.1
theorem dX12_taken_2 : decode cX12_taken 2 = .ok (.getfield 193, 3) := dGR_25_c_810.2.2.1
theorem dX12_taken_5 : decode cX12_taken 5 = .ok (.putfield 37, 3) := dGR_25_c_810.2.2.2.1
theorem dX12_taken_8 : decode cX12_taken 8 = .ok (.aload_n 0, 1) := dGR_25_c_810.2.2.2.2.1
theorem dX12_taken_9 : decode cX12_taken 9 = .ok (.getfield 193, 3) := dGR_25_c_810.2.2.2.2.2.1
theorem dX12_taken_12 : decode cX12_taken 12 = .ok (.ifCond .le 12, 3) := dGR_25_c_810.2.2.2.2.2.2.1
theorem dX12_taken_15 : decode cX12_taken 15 = .ok (.aload_n 0, 1) := dGR_25_c_810.2.2.2.2.2.2.2.1
theorem dX12_taken_16 : decode cX12_taken 16 = .ok (.bipush 9, 2) := dGR_25_c_810.2.2.2.2.2.2.2.2.1
theorem dX12_taken_18 : decode cX12_taken 18 = .ok (.invokevirtual 123, 3) := dGR_25_c_810.2.2.2.2.2.2.2.2.2.1
theorem dX12_taken_21 : decode cX12_taken 21 = .ok (.goto 8, 3) := dGR_25_c_810.2.2.2.2.2.2.2.2.2.2.1
theorem dX12_taken_24 : decode cX12_taken 24 = .ok (.aload_n 0, 1) := dGR_25_c_810.2.2.2.2.2.2.2.2.2.2.2
set_option maxRecDepth 100000 in
theorem dGR_25_c_811 : (decode cX12_taken 25 = .ok (.iload_n 1, 1)) ∧ (decode cX12_taken 26 = .ok (.invokevirtual 127, 3)) ∧ (decode cX12_taken 29 = .ok (.ireturn, 1)) := by decide +kernel
theorem dX12_taken_25 : decode cX12_taken 25 = .ok (.iload_n 1, 1) := dGR_25_c_811.1
theorem dX12_taken_26 : decode cX12_taken 26 = .ok (.invokevirtual 127, 3) := dGR_25_c_811.2.1
theorem dX12_taken_29 : decode cX12_taken 29 = .ok (.ireturn, 1) := dGR_25_c_811.2.2
set_option maxRecDepth 100000 in
theorem dGR_25_c_812 : (decode cX12_wantSign 0 = .ok (.aload_n 0, 1)) ∧ (decode cX12_wantSign 1 = .ok (.iload_n 1, 1)) ∧ (decode cX12_wantSign 2 = .ok (.invokevirtual 202, 3)) ∧ (decode cX12_wantSign 5 = .ok (.ifCond .ne 9, 3)) ∧ (decode cX12_wantSign 8 = .ok (.aload_n 0, 1)) ∧ (decode cX12_wantSign 9 = .ok (.iconst 2, 1)) ∧ (decode cX12_wantSign 10 = .ok (.invokevirtual 205, 3)) ∧ (decode cX12_wantSign 13 = .ok (.ireturn, 1)) ∧ (decode cX12_wantSign 14 = .ok (.aload_n 0, 1)) ∧ (decode cX12_wantSign 15 = .ok (.invokevirtual 199, 3)) ∧ (decode cX12_wantSign 18 = .ok (.iconst 1, 1)) ∧ (decode cX12_wantSign 19 = .ok (.ireturn, 1)) := by decide +kernel
theorem dX12_wantSign_0 : decode cX12_wantSign 0 = .ok (.aload_n 0, 1) := dGR_25_c_812.1
theorem dX12_wantSign_1 : decode cX12_wantSign 1 = .ok (.iload_n 1, 1) := dGR_25_c_812.2.1
theorem dX12_wantSign_2 : decode cX12_wantSign 2 = .ok (.invokevirtual 202, 3) := dGR_25_c_812.2.2.1
theorem dX12_wantSign_5 : decode cX12_wantSign 5 = .ok (.ifCond .ne 9, 3) := dGR_25_c_812.2.2.2.1
theorem dX12_wantSign_8 : decode cX12_wantSign 8 = .ok (.aload_n 0, 1) := dGR_25_c_812.2.2.2.2.1
theorem dX12_wantSign_9 : decode cX12_wantSign 9 = .ok (.iconst 2, 1) := dGR_25_c_812.2.2.2.2.2.1
theorem dX12_wantSign_10 : decode cX12_wantSign 10 = .ok (.invokevirtual 205, 3) := dGR_25_c_812.2.2.2.2.2.2.1
theorem dX12_wantSign_13 : decode cX12_wantSign 13 = .ok (.ireturn, 1) := dGR_25_c_812.2.2.2.2.2.2.2.1
theorem dX12_wantSign_14 : decode cX12_wantSign 14 = .ok (.aload_n 0, 1) := dGR_25_c_812.2.2.2.2.2.2.2.2.1
theorem dX12_wantSign_15 : decode cX12_wantSign 15 = .ok (.invokevirtual 199, 3) := dGR_25_c_812.2.2.2.2.2.2.2.2.2.1
theorem dX12_wantSign_18 : decode cX12_wantSign 18 = .ok (.iconst 1, 1) := dGR_25_c_812.2.2.2.2.2.2.2.2.2.2.1
theorem dX12_wantSign_19 : decode cX12_wantSign 19 = .ok (.ireturn, 1) := dGR_25_c_812.2.2.2.2.2.2.2.2.2.2.2
set_option maxRecDepth 100000 in
theorem dGR_25_c_813 : (decode cX12_wantWord 0 = .ok (.aload_n 0, 1)) ∧ (decode cX12_wantWord 1 = .ok (.aload_n 1, 1)) ∧ (decode cX12_wantWord 2 = .ok (.invokevirtual 208, 3)) ∧ (decode cX12_wantWord 5 = .ok (.iload_n 2, 1)) ∧ (decode cX12_wantWord 6 = .ok (.if_icmp .eq 9, 3)) ∧ (decode cX12_wantWord 9 = .ok (.aload_n 0, 1)) ∧ (decode cX12_wantWord 10 = .ok (.iconst 2, 1)) ∧ (decode cX12_wantWord 11 = .ok (.invokevirtual 205, 3)) ∧ (decode cX12_wantWord 14 = .ok (.ireturn, 1)) ∧ (decode cX12_wantWord 15 = .ok (.aload_n 0, 1)) ∧ (decode cX12_wantWord 16 = .ok (.invokevirtual 199, 3)) ∧ (decode cX12_wantWord 19 = .ok (.iconst 1, 1)) := by decide +kernel
theorem dX12_wantWord_0 : decode cX12_wantWord 0 = .ok (.aload_n 0, 1) := dGR_25_c_813.1
theorem dX12_wantWord_1 : decode cX12_wantWord 1 = .ok (.aload_n 1, 1) := dGR_25_c_813.2.1
theorem dX12_wantWord_2 : decode cX12_wantWord 2 = .ok (.invokevirtual 208, 3) := dGR_25_c_813.2.2.1
theorem dX12_wantWord_5 : decode cX12_wantWord 5 = .ok (.iload_n 2, 1) := dGR_25_c_813.2.2.2.1
theorem dX12_wantWord_6 : decode cX12_wantWord 6 = .ok (.if_icmp .eq 9, 3) := dGR_25_c_813.2.2.2.2.1
theorem dX12_wantWord_9 : decode cX12_wantWord 9 = .ok (.aload_n 0, 1) := dGR_25_c_813.2.2.2.2.2.1
theorem dX12_wantWord_10 : decode cX12_wantWord 10 = .ok (.iconst 2, 1) := dGR_25_c_813.2.2.2.2.2.2.1
theorem dX12_wantWord_11 : decode cX12_wantWord 11 = .ok (.invokevirtual 205, 3) := dGR_25_c_813.2.2.2.2.2.2.2.1
theorem dX12_wantWord_14 : decode cX12_wantWord 14 = .ok (.ireturn, 1) := dGR_25_c_813.2.2.2.2.2.2.2.2.1
theorem dX12_wantWord_15 : decode cX12_wantWord 15 = .ok (.aload_n 0, 1) := dGR_25_c_813.2.2.2.2.2.2.2.2.2.1
theorem dX12_wantWord_16 : decode cX12_wantWord 16 = .ok (.invokevirtual 199, 3) := dGR_25_c_813.2.2.2.2.2.2.2.2.2.2.1
theorem dX12_wantWord_19 : decode cX12_wantWord 19 = .ok (.iconst 1, 1) := dGR_25_c_813.2.2.2.2.2.2.2.2.2.2.2
theorem dX12_wantWord_20 : decode cX12_wantWord 20 = .ok (.ireturn, 1) := by decide +kernel
set_option maxRecDepth 100000 in
theorem dGR_25_c_814 : (decode cX12_number 0 = .ok (.aload_n 0, 1)) ∧ (decode cX12_number 1 = .ok (.getfield 168, 3)) ∧ (decode cX12_number 4 = .ok (.iconst 3, 1)) ∧ (decode cX12_number 5 = .ok (.if_icmp .eq 9, 3)) ∧ (decode cX12_number 8 = .ok (.aload_n 0, 1)) ∧ (decode cX12_number 9 = .ok (.iconst 2, 1)) ∧ (decode cX12_number 10 = .ok (.invokevirtual 205, 3)) ∧ (decode cX12_number 13 = .ok (.ireturn, 1)) ∧ (decode cX12_number 14 = .ok (.aload_n 0, 1)) ∧ (decode cX12_number 15 = .ok (.getfield 165, 3)) ∧ (decode cX12_number 18 = .ok (.iload_n 2, 1)) ∧ (decode cX12_number 19 = .ok (.if_icmp .lt 11, 3)) := by decide +kernel
theorem dX12_number_0 : decode cX12_number 0 = .ok (.aload_n 0, 1) := dGR_25_c_814.1
theorem dX12_number_1 : decode cX12_number 1 = .ok (.getfield 168, 3) := dGR_25_c_814.2.1
theorem dX12_number_4 : decode cX12_number 4 = .ok (.iconst 3, 1) := dGR_25_c_814.2.2.1
theorem dX12_number_5 : decode cX12_number 5 = .ok (.if_icmp .eq 9, 3) := dGR_25_c_814.2.2.2.1
theorem dX12_number_8 : decode cX12_number 8 = .ok (.aload_n 0, 1) := dGR_25_c_814.2.2.2.2.1
theorem dX12_number_9 : decode cX12_number 9 = .ok (.iconst 2, 1) := dGR_25_c_814.2.2.2.2.2.1
theorem dX12_number_10 : decode cX12_number 10 = .ok (.invokevirtual 205, 3) := dGR_25_c_814.2.2.2.2.2.2.1
theorem dX12_number_13 : decode cX12_number 13 = .ok (.ireturn, 1) := dGR_25_c_814.2.2.2.2.2.2.2.1
theorem dX12_number_14 : decode cX12_number 14 = .ok (.aload_n 0, 1) := dGR_25_c_814.2.2.2.2.2.2.2.2.1
theorem dX12_number_15 : decode cX12_number 15 = .ok (.getfield 165, 3) := dGR_25_c_814.2.2.2.2.2.2.2.2.2.1
theorem dX12_number_18 : decode cX12_number 18 = .ok (.iload_n 2, 1) := dGR_25_c_814.2.2.2.2.2.2.2.2.2.2.1
theorem dX12_number_19 : decode cX12_number 19 = .ok (.if_icmp .lt 11, 3) := dGR_25_c_814.2.2.2.2.2.2.2.2.2.2.2
set_option maxRecDepth 100000 in
theorem dGR_25_c_815 : (decode cX12_number 22 = .ok (.aload_n 0, 1)) ∧ (decode cX12_number 23 = .ok (.getfield 165, 3)) ∧ (decode cX12_number 26 = .ok (.iload_n 3, 1)) ∧ (decode cX12_number 27 = .ok (.if_icmp .le 9, 3)) ∧ (decode cX12_number 30 = .ok (.aload_n 0, 1)) ∧ (decode cX12_number 31 = .ok (.iconst 4, 1)) ∧ (decode cX12_number 32 = .ok (.invokevirtual 205, 3)) ∧ (decode cX12_number 35 = .ok (.ireturn, 1)) ∧ (decode cX12_number 36 = .ok (.aload_n 0, 1)) ∧ (decode cX12_number 37 = .ok (.getfield 7, 3)) ∧ (decode cX12_number 40 = .ok (.iload_n 1, 1)) ∧ (decode cX12_number 41 = .ok (.aload_n 0, 1)) := by decide +kernel
theorem dX12_number_22 : decode cX12_number 22 = .ok (.aload_n 0, 1) := dGR_25_c_815.1
theorem dX12_number_23 : decode cX12_number 23 = .ok (.getfield 165, 3) := dGR_25_c_815.2.1
theorem dX12_number_26 : decode cX12_number 26 = .ok (.iload_n 3, 1) := dGR_25_c_815.2.2.1
theorem dX12_number_27 : decode cX12_number 27 = .ok (.if_icmp .le 9, 3) := dGR_25_c_815.2.2.2.1
theorem dX12_number_30 : decode cX12_number 30 = .ok (.aload_n 0, 1) := dGR_25_c_815.2.2.2.2.1
theorem dX12_number_31 : decode cX12_number 31 = .ok (.iconst 4, 1) := dGR_25_c_815.2.2.2.2.2.1
theorem dX12_number_32 : decode cX12_number 32 = .ok (.invokevirtual 205, 3) := dGR_25_c_815.2.2.2.2.2.2.1
theorem dX12_number_35 : decode cX12_number 35 = .ok (.ireturn, 1) := dGR_25_c_815.2.2.2.2.2.2.2.1
theorem dX12_number_36 : decode cX12_number 36 = .ok (.aload_n 0, 1) := dGR_25_c_815.2.2.2.2.2.2.2.2.1
theorem dX12_number_37 : decode cX12_number 37 = .ok (.getfield 7, 3) := dGR_25_c_815.2.2.2.2.2.2.2.2.2.1
theorem dX12_number_40 : decode cX12_number 40 = .ok (.iload_n 1, 1) := dGR_25_c_815.2.2.2.2.2.2.2.2.2.2.1
theorem dX12_number_41 : decode cX12_number 41 = .ok (.aload_n 0, 1) := dGR_25_c_815.2.2.2.2.2.2.2.2.2.2.2
set_option maxRecDepth 100000 in
theorem dGR_25_c_816 : (decode cX12_number 42 = .ok (.getfield 165, 3)) ∧ (decode cX12_number 45 = .ok (.iastore, 1)) ∧ (decode cX12_number 46 = .ok (.aload_n 0, 1)) ∧ (decode cX12_number 47 = .ok (.invokevirtual 199, 3)) ∧ (decode cX12_number 50 = .ok (.iconst 1, 1)) ∧ (decode cX12_number 51 = .ok (.ireturn, 1)) := by decide +kernel
theorem dX12_number_42 : decode cX12_number 42 = .ok (.getfield 165, 3) := dGR_25_c_816.1
theorem dX12_number_45 : decode cX12_number 45 = .ok (.iastore, 1) := dGR_25_c_816.2.1
theorem dX12_number_46 : decode cX12_number 46 = .ok (.aload_n 0, 1) := dGR_25_c_816.2.2.1
theorem dX12_number_47 : decode cX12_number 47 = .ok (.invokevirtual 199, 3) := dGR_25_c_816.2.2.2.1
theorem dX12_number_50 : decode cX12_number 50 = .ok (.iconst 1, 1) := dGR_25_c_816.2.2.2.2.1
theorem dX12_number_51 : decode cX12_number 51 = .ok (.ireturn, 1) := dGR_25_c_816.2.2.2.2.2
set_option maxRecDepth 100000 in
theorem dGR_25_c_817 : (decode cX12_isName 0 = .ok (.aload_n 0, 1)) ∧ (decode cX12_isName 1 = .ok (.getfield 168, 3)) ∧ (decode cX12_isName 4 = .ok (.iconst 2, 1)) ∧ (decode cX12_isName 5 = .ok (.if_icmp .ne 30, 3)) ∧ (decode cX12_isName 8 = .ok (.aload_n 0, 1)) ∧ (decode cX12_isName 9 = .ok (.getfield 156, 3)) ∧ (decode cX12_isName 12 = .ok (.aload_n 0, 1)) ∧ (decode cX12_isName 13 = .ok (.getfield 162, 3)) ∧ (decode cX12_isName 16 = .ok (.isub, 1)) ∧ (decode cX12_isName 17 = .ok (.bipush 8, 2)) ∧ (decode cX12_isName 19 = .ok (.if_icmp .gt 16, 3)) ∧ (decode cX12_isName 22 = .ok (.aload_n 0, 1)) := by decide +kernel
theorem dX12_isName_0 : decode cX12_isName 0 = .ok (.aload_n 0, 1) := dGR_25_c_817.1
theorem dX12_isName_1 : decode cX12_isName 1 = .ok (.getfield 168, 3) := dGR_25_c_817.2.1
theorem dX12_isName_4 : decode cX12_isName 4 = .ok (.iconst 2, 1) := dGR_25_c_817.2.2.1
theorem dX12_isName_5 : decode cX12_isName 5 = .ok (.if_icmp .ne 30, 3) := dGR_25_c_817.2.2.2.1
theorem dX12_isName_8 : decode cX12_isName 8 = .ok (.aload_n 0, 1) := dGR_25_c_817.2.2.2.2.1
theorem dX12_isName_9 : decode cX12_isName 9 = .ok (.getfield 156, 3) := dGR_25_c_817.2.2.2.2.2.1
theorem dX12_isName_12 : decode cX12_isName 12 = .ok (.aload_n 0, 1) := dGR_25_c_817.2.2.2.2.2.2.1
theorem dX12_isName_13 : decode cX12_isName 13 = .ok (.getfield 162, 3) := dGR_25_c_817.2.2.2.2.2.2.2.1
theorem dX12_isName_16 : decode cX12_isName 16 = .ok (.isub, 1) := dGR_25_c_817.2.2.2.2.2.2.2.2.1
theorem dX12_isName_17 : decode cX12_isName 17 = .ok (.bipush 8, 2) := dGR_25_c_817.2.2.2.2.2.2.2.2.2.1
theorem dX12_isName_19 : decode cX12_isName 19 = .ok (.if_icmp .gt 16, 3) := dGR_25_c_817.2.2.2.2.2.2.2.2.2.2.1
theorem dX12_isName_22 : decode cX12_isName 22 = .ok (.aload_n 0, 1) := dGR_25_c_817.2.2.2.2.2.2.2.2.2.2.2
set_option maxRecDepth 100000 in
theorem dGR_25_c_818 : (decode cX12_isName 23 = .ok (.aload_n 1, 1)) ∧ (decode cX12_isName 24 = .ok (.invokevirtual 208, 3)) ∧ (decode cX12_isName 27 = .ok (.iconst (-1), 1)) ∧ (decode cX12_isName 28 = .ok (.if_icmp .ne 7, 3)) ∧ (decode cX12_isName 31 = .ok (.iconst 1, 1)) ∧ (decode cX12_isName 32 = .ok (.goto 4, 3)) ∧ (decode cX12_isName 35 = .ok (.iconst 0, 1)) ∧ (decode cX12_isName 36 = .ok (.ireturn, 1)) := by decide +kernel
theorem dX12_isName_23 : decode cX12_isName 23 = .ok (.aload_n 1, 1) := dGR_25_c_818.1
theorem dX12_isName_24 : decode cX12_isName 24 = .ok (.invokevirtual 208, 3) := dGR_25_c_818.2.1
theorem dX12_isName_27 : decode cX12_isName 27 = .ok (.iconst (-1), 1) := dGR_25_c_818.2.2.1
theorem dX12_isName_28 : decode cX12_isName 28 = .ok (.if_icmp .ne 7, 3) := dGR_25_c_818.2.2.2.1
theorem dX12_isName_31 : decode cX12_isName 31 = .ok (.iconst 1, 1) := dGR_25_c_818.2.2.2.2.1
theorem dX12_isName_32 : decode cX12_isName 32 = .ok (.goto 4, 3) := dGR_25_c_818.2.2.2.2.2.1
theorem dX12_isName_35 : decode cX12_isName 35 = .ok (.iconst 0, 1) := dGR_25_c_818.2.2.2.2.2.2.1
theorem dX12_isName_36 : decode cX12_isName 36 = .ok (.ireturn, 1) := dGR_25_c_818.2.2.2.2.2.2.2
set_option maxRecDepth 100000 in
theorem dGR_25_c_819 : (decode cX12_isThere 0 = .ok (.aload_n 0, 1)) ∧ (decode cX12_isThere 1 = .ok (.ldc 219, 2)) ∧ (decode cX12_isThere 3 = .ok (.invokevirtual 208, 3)) ∧ (decode cX12_isThere 6 = .ok (.iload_n 1, 1)) ∧ (decode cX12_isThere 7 = .ok (.if_icmp .eq 5, 3)) ∧ (decode cX12_isThere 10 = .ok (.iconst 0, 1)) ∧ (decode cX12_isThere 11 = .ok (.ireturn, 1)) ∧ (decode cX12_isThere 12 = .ok (.aload_n 0, 1)) ∧ (decode cX12_isThere 13 = .ok (.invokevirtual 199, 3)) ∧ (decode cX12_isThere 16 = .ok (.iconst 1, 1)) ∧ (decode cX12_isThere 17 = .ok (.ireturn, 1)) := by decide +kernel
theorem dX12_isThere_0 : decode cX12_isThere 0 = .ok (.aload_n 0, 1) := dGR_25_c_819.1
theorem dX12_isThere_1 : decode cX12_isThere 1 = .ok (.ldc 219, 2) := dGR_25_c_819.2.1
theorem dX12_isThere_3 : decode cX12_isThere 3 = .ok (.invokevirtual 208, 3) := dGR_25_c_819.2.2.1
theorem dX12_isThere_6 : decode cX12_isThere 6 = .ok (.iload_n 1, 1) := dGR_25_c_819.2.2.2.1
theorem dX12_isThere_7 : decode cX12_isThere 7 = .ok (.if_icmp .eq 5, 3) := dGR_25_c_819.2.2.2.2.1
theorem dX12_isThere_10 : decode cX12_isThere 10 = .ok (.iconst 0, 1) := dGR_25_c_819.2.2.2.2.2.1
theorem dX12_isThere_11 : decode cX12_isThere 11 = .ok (.ireturn, 1) := dGR_25_c_819.2.2.2.2.2.2.1
theorem dX12_isThere_12 : decode cX12_isThere 12 = .ok (.aload_n 0, 1) := dGR_25_c_819.2.2.2.2.2.2.2.1
theorem dX12_isThere_13 : decode cX12_isThere 13 = .ok (.invokevirtual 199, 3) := dGR_25_c_819.2.2.2.2.2.2.2.2.1
theorem dX12_isThere_16 : decode cX12_isThere 16 = .ok (.iconst 1, 1) := dGR_25_c_819.2.2.2.2.2.2.2.2.2.1
theorem dX12_isThere_17 : decode cX12_isThere 17 = .ok (.ireturn, 1) := dGR_25_c_819.2.2.2.2.2.2.2.2.2.2
set_option maxRecDepth 100000 in
theorem dGR_25_c_820 : (decode cX12_letterHere 0 = .ok (.iconst 0, 1)) ∧ (decode cX12_letterHere 1 = .ok (.istore_n 1, 1)) ∧ (decode cX12_letterHere 2 = .ok (.iconst 0, 1)) ∧ (decode cX12_letterHere 3 = .ok (.istore_n 2, 1)) ∧ (decode cX12_letterHere 4 = .ok (.iload_n 2, 1)) ∧ (decode cX12_letterHere 5 = .ok (.iconst 3, 1)) ∧ (decode cX12_letterHere 6 = .ok (.if_icmp .ge 48, 3)) ∧ (decode cX12_letterHere 9 = .ok (.aload_n 0, 1)) ∧ (decode cX12_letterHere 10 = .ok (.getfield 7, 3)) ∧ (decode cX12_letterHere 13 = .ok (.sipush 1088, 3)) ∧ (decode cX12_letterHere 16 = .ok (.iload_n 2, 1)) ∧ (decode cX12_letterHere 17 = .ok (.iadd, 1)) := by decide +kernel
theorem dX12_letterHere_0 : decode cX12_letterHere 0 = .ok (.iconst 0, 1) := dGR_25_c_820.1
theorem dX12_letterHere_1 : decode cX12_letterHere 1 = .ok (.istore_n 1, 1) := dGR_25_c_820.2.1
theorem dX12_letterHere_2 : decode cX12_letterHere 2 = .ok (.iconst 0, 1) := dGR_25_c_820.2.2.1
theorem dX12_letterHere_3 : decode cX12_letterHere 3 = .ok (.istore_n 2, 1) := dGR_25_c_820.2.2.2.1
theorem dX12_letterHere_4 : decode cX12_letterHere 4 = .ok (.iload_n 2, 1) := dGR_25_c_820.2.2.2.2.1
theorem dX12_letterHere_5 : decode cX12_letterHere 5 = .ok (.iconst 3, 1) := dGR_25_c_820.2.2.2.2.2.1
theorem dX12_letterHere_6 : decode cX12_letterHere 6 = .ok (.if_icmp .ge 48, 3) := dGR_25_c_820.2.2.2.2.2.2.1
theorem dX12_letterHere_9 : decode cX12_letterHere 9 = .ok (.aload_n 0, 1) := dGR_25_c_820.2.2.2.2.2.2.2.1
theorem dX12_letterHere_10 : decode cX12_letterHere 10 = .ok (.getfield 7, 3) := dGR_25_c_820.2.2.2.2.2.2.2.2.1
theorem dX12_letterHere_13 : decode cX12_letterHere 13 = .ok (.sipush 1088, 3) := dGR_25_c_820.2.2.2.2.2.2.2.2.2.1
theorem dX12_letterHere_16 : decode cX12_letterHere 16 = .ok (.iload_n 2, 1) := dGR_25_c_820.2.2.2.2.2.2.2.2.2.2.1
theorem dX12_letterHere_17 : decode cX12_letterHere 17 = .ok (.iadd, 1) := dGR_25_c_820.2.2.2.2.2.2.2.2.2.2.2
set_option maxRecDepth 100000 in
theorem dGR_25_c_821 : (decode cX12_letterHere 18 = .ok (.iaload, 1)) ∧ (decode cX12_letterHere 19 = .ok (.istore_n 3, 1)) ∧ (decode cX12_letterHere 20 = .ok (.aload_n 0, 1)) ∧ (decode cX12_letterHere 21 = .ok (.bipush 24, 2)) ∧ (decode cX12_letterHere 23 = .ok (.iconst 2, 1)) ∧ (decode cX12_letterHere 24 = .ok (.iload_n 2, 1)) ∧ (decode cX12_letterHere 25 = .ok (.imul, 1)) ∧ (decode cX12_letterHere 26 = .ok (.iadd, 1)) ∧ (decode cX12_letterHere 27 = .ok (.iload_n 3, 1)) ∧ (decode cX12_letterHere 28 = .ok (.invokevirtual 221, 3)) ∧ (decode cX12_letterHere 31 = .ok (.istore 4, 2)) ∧ (decode cX12_letterHere 33 = .ok (.iload 4, 2)) := by decide +kernel
theorem dX12_letterHere_18 : decode cX12_letterHere 18 = .ok (.iaload, 1) := dGR_25_c_821.1
theorem dX12_letterHere_19 : decode cX12_letterHere 19 = .ok (.istore_n 3, 1) := dGR_25_c_821.2.1
theorem dX12_letterHere_20 : decode cX12_letterHere 20 = .ok (.aload_n 0, 1) := dGR_25_c_821.2.2.1
theorem dX12_letterHere_21 : decode cX12_letterHere 21 = .ok (.bipush 24, 2) := dGR_25_c_821.2.2.2.1
theorem dX12_letterHere_23 : decode cX12_letterHere 23 = .ok (.iconst 2, 1) := dGR_25_c_821.2.2.2.2.1
theorem dX12_letterHere_24 : decode cX12_letterHere 24 = .ok (.iload_n 2, 1) := dGR_25_c_821.2.2.2.2.2.1
theorem dX12_letterHere_25 : decode cX12_letterHere 25 = .ok (.imul, 1) := dGR_25_c_821.2.2.2.2.2.2.1
theorem dX12_letterHere_26 : decode cX12_letterHere 26 = .ok (.iadd, 1) := dGR_25_c_821.2.2.2.2.2.2.2.1
theorem dX12_letterHere_27 : decode cX12_letterHere 27 = .ok (.iload_n 3, 1) := dGR_25_c_821.2.2.2.2.2.2.2.2.1
theorem dX12_letterHere_28 : decode cX12_letterHere 28 = .ok (.invokevirtual 221, 3) := dGR_25_c_821.2.2.2.2.2.2.2.2.2.1
theorem dX12_letterHere_31 : decode cX12_letterHere 31 = .ok (.istore 4, 2) := dGR_25_c_821.2.2.2.2.2.2.2.2.2.2.1
theorem dX12_letterHere_33 : decode cX12_letterHere 33 = .ok (.iload 4, 2) := dGR_25_c_821.2.2.2.2.2.2.2.2.2.2.2
set_option maxRecDepth 100000 in
theorem dGR_25_c_822 : (decode cX12_letterHere 35 = .ok (.iconst (-1), 1)) ∧ (decode cX12_letterHere 36 = .ok (.if_icmp .eq 8, 3)) ∧ (decode cX12_letterHere 39 = .ok (.iload_n 1, 1)) ∧ (decode cX12_letterHere 40 = .ok (.iload 4, 2)) ∧ (decode cX12_letterHere 42 = .ok (.iadd, 1)) ∧ (decode cX12_letterHere 43 = .ok (.ireturn, 1)) ∧ (decode cX12_letterHere 44 = .ok (.iload_n 1, 1)) ∧ (decode cX12_letterHere 45 = .ok (.iload_n 3, 1)) ∧ (decode cX12_letterHere 46 = .ok (.iadd, 1)) ∧ (decode cX12_letterHere 47 = .ok (.istore_n 1, 1)) ∧ (decode cX12_letterHere 48 = .ok (.iinc 2 1, 3)) ∧ (decode cX12_letterHere 51 = .ok (.goto (-47), 3)) := by decide +kernel
theorem dX12_letterHere_35 : decode cX12_letterHere 35 = .ok (.iconst (-1), 1) := dGR_25_c_822.1
theorem dX12_letterHere_36 : decode cX12_letterHere 36 = .ok (.if_icmp .eq 8, 3) := dGR_25_c_822.2.1
theorem dX12_letterHere_39 : decode cX12_letterHere 39 = .ok (.iload_n 1, 1) := dGR_25_c_822.2.2.1
theorem dX12_letterHere_40 : decode cX12_letterHere 40 = .ok (.iload 4, 2) := dGR_25_c_822.2.2.2.1
theorem dX12_letterHere_42 : decode cX12_letterHere 42 = .ok (.iadd, 1) := dGR_25_c_822.2.2.2.2.1
theorem dX12_letterHere_43 : decode cX12_letterHere 43 = .ok (.ireturn, 1) := dGR_25_c_822.2.2.2.2.2.1
theorem dX12_letterHere_44 : decode cX12_letterHere 44 = .ok (.iload_n 1, 1) := dGR_25_c_822.2.2.2.2.2.2.1
theorem dX12_letterHere_45 : decode cX12_letterHere 45 = .ok (.iload_n 3, 1) := dGR_25_c_822.2.2.2.2.2.2.2.1
theorem dX12_letterHere_46 : decode cX12_letterHere 46 = .ok (.iadd, 1) := dGR_25_c_822.2.2.2.2.2.2.2.2.1
theorem dX12_letterHere_47 : decode cX12_letterHere 47 = .ok (.istore_n 1, 1) := dGR_25_c_822.2.2.2.2.2.2.2.2.2.1
theorem dX12_letterHere_48 : decode cX12_letterHere 48 = .ok (.iinc 2 1, 3) := dGR_25_c_822.2.2.2.2.2.2.2.2.2.2.1
theorem dX12_letterHere_51 : decode cX12_letterHere 51 = .ok (.goto (-47), 3) := dGR_25_c_822.2.2.2.2.2.2.2.2.2.2.2
theorem dX12_letterHere_54 : decode cX12_letterHere 54 = .ok (.iconst (-1), 1) := by decide +kernel
theorem dX12_letterHere_55 : decode cX12_letterHere 55 = .ok (.ireturn, 1) := by decide +kernel
set_option maxRecDepth 100000 in
theorem dGR_25_c_823 : (decode cX12_aLetter 0 = .ok (.aload_n 0, 1)) ∧ (decode cX12_aLetter 1 = .ok (.getfield 7, 3)) ∧ (decode cX12_aLetter 4 = .ok (.sipush 1088, 3)) ∧ (decode cX12_aLetter 7 = .ok (.iload_n 1, 1)) ∧ (decode cX12_aLetter 8 = .ok (.iadd, 1)) ∧ (decode cX12_aLetter 9 = .ok (.iaload, 1)) ∧ (decode cX12_aLetter 10 = .ok (.istore_n 2, 1)) ∧ (decode cX12_aLetter 11 = .ok (.aload_n 0, 1)) ∧ (decode cX12_aLetter 12 = .ok (.getfield 7, 3)) ∧ (decode cX12_aLetter 15 = .ok (.sipush 1091, 3)) ∧ (decode cX12_aLetter 18 = .ok (.iaload, 1)) ∧ (decode cX12_aLetter 19 = .ok (.ifCond .le 9, 3)) := by decide +kernel
theorem dX12_aLetter_0 : decode cX12_aLetter 0 = .ok (.aload_n 0, 1) := dGR_25_c_823.1
theorem dX12_aLetter_1 : decode cX12_aLetter 1 = .ok (.getfield 7, 3) := dGR_25_c_823.2.1
theorem dX12_aLetter_4 : decode cX12_aLetter 4 = .ok (.sipush 1088, 3) := dGR_25_c_823.2.2.1
theorem dX12_aLetter_7 : decode cX12_aLetter 7 = .ok (.iload_n 1, 1) := dGR_25_c_823.2.2.2.1
theorem dX12_aLetter_8 : decode cX12_aLetter 8 = .ok (.iadd, 1) := dGR_25_c_823.2.2.2.2.1
theorem dX12_aLetter_9 : decode cX12_aLetter 9 = .ok (.iaload, 1) := dGR_25_c_823.2.2.2.2.2.1
theorem dX12_aLetter_10 : decode cX12_aLetter 10 = .ok (.istore_n 2, 1) := dGR_25_c_823.2.2.2.2.2.2.1
theorem dX12_aLetter_11 : decode cX12_aLetter 11 = .ok (.aload_n 0, 1) := dGR_25_c_823.2.2.2.2.2.2.2.1
theorem dX12_aLetter_12 : decode cX12_aLetter 12 = .ok (.getfield 7, 3) := dGR_25_c_823.2.2.2.2.2.2.2.2.1
theorem dX12_aLetter_15 : decode cX12_aLetter 15 = .ok (.sipush 1091, 3) := dGR_25_c_823.2.2.2.2.2.2.2.2.2.1
theorem dX12_aLetter_18 : decode cX12_aLetter 18 = .ok (.iaload, 1) := dGR_25_c_823.2.2.2.2.2.2.2.2.2.2.1
theorem dX12_aLetter_19 : decode cX12_aLetter 19 = .ok (.ifCond .le 9, 3) := dGR_25_c_823.2.2.2.2.2.2.2.2.2.2.2
set_option maxRecDepth 100000 in
theorem dGR_25_c_824 : (decode cX12_aLetter 22 = .ok (.aload_n 0, 1)) ∧ (decode cX12_aLetter 23 = .ok (.iconst 5, 1)) ∧ (decode cX12_aLetter 24 = .ok (.invokevirtual 205, 3)) ∧ (decode cX12_aLetter 27 = .ok (.ireturn, 1)) ∧ (decode cX12_aLetter 28 = .ok (.iload_n 2, 1)) ∧ (decode cX12_aLetter 29 = .ok (.iconst 2, 1)) ∧ (decode cX12_aLetter 30 = .ok (.if_icmp .ne 10, 3)) ∧ (decode cX12_aLetter 33 = .ok (.aload_n 0, 1)) ∧ (decode cX12_aLetter 34 = .ok (.bipush 6, 2)) ∧ (decode cX12_aLetter 36 = .ok (.invokevirtual 205, 3)) ∧ (decode cX12_aLetter 39 = .ok (.ireturn, 1)) ∧ (decode cX12_aLetter 40 = .ok (.aload_n 0, 1)) := by decide +kernel
theorem dX12_aLetter_22 : decode cX12_aLetter 22 = .ok (.aload_n 0, 1) := dGR_25_c_824.1
theorem dX12_aLetter_23 : decode cX12_aLetter 23 = .ok (.iconst 5, 1) := dGR_25_c_824.2.1
theorem dX12_aLetter_24 : decode cX12_aLetter 24 = .ok (.invokevirtual 205, 3) := dGR_25_c_824.2.2.1
theorem dX12_aLetter_27 : decode cX12_aLetter 27 = .ok (.ireturn, 1) := dGR_25_c_824.2.2.2.1
theorem dX12_aLetter_28 : decode cX12_aLetter 28 = .ok (.iload_n 2, 1) := dGR_25_c_824.2.2.2.2.1
theorem dX12_aLetter_29 : decode cX12_aLetter 29 = .ok (.iconst 2, 1) := dGR_25_c_824.2.2.2.2.2.1
theorem dX12_aLetter_30 : decode cX12_aLetter 30 = .ok (.if_icmp .ne 10, 3) := dGR_25_c_824.2.2.2.2.2.2.1
theorem dX12_aLetter_33 : decode cX12_aLetter 33 = .ok (.aload_n 0, 1) := dGR_25_c_824.2.2.2.2.2.2.2.1
theorem dX12_aLetter_34 : decode cX12_aLetter 34 = .ok (.bipush 6, 2) := dGR_25_c_824.2.2.2.2.2.2.2.2.1
theorem dX12_aLetter_36 : decode cX12_aLetter 36 = .ok (.invokevirtual 205, 3) := dGR_25_c_824.2.2.2.2.2.2.2.2.2.1
theorem dX12_aLetter_39 : decode cX12_aLetter 39 = .ok (.ireturn, 1) := dGR_25_c_824.2.2.2.2.2.2.2.2.2.2.1
theorem dX12_aLetter_40 : decode cX12_aLetter 40 = .ok (.aload_n 0, 1) := dGR_25_c_824.2.2.2.2.2.2.2.2.2.2.2
set_option maxRecDepth 100000 in
theorem dGR_25_c_825 : (decode cX12_aLetter 41 = .ok (.invokevirtual 199, 3)) ∧ (decode cX12_aLetter 44 = .ok (.aload_n 0, 1)) ∧ (decode cX12_aLetter 45 = .ok (.ldc 219, 2)) ∧ (decode cX12_aLetter 47 = .ok (.invokevirtual 224, 3)) ∧ (decode cX12_aLetter 50 = .ok (.ifCond .ne 9, 3)) ∧ (decode cX12_aLetter 53 = .ok (.aload_n 0, 1)) ∧ (decode cX12_aLetter 54 = .ok (.iconst 2, 1)) ∧ (decode cX12_aLetter 55 = .ok (.invokevirtual 205, 3)) ∧ (decode cX12_aLetter 58 = .ok (.ireturn, 1)) ∧ (decode cX12_aLetter 59 = .ok (.aload_n 0, 1)) ∧ (decode cX12_aLetter 60 = .ok (.invokevirtual 228, 3)) ∧ (decode cX12_aLetter 63 = .ok (.iconst (-1), 1)) := by decide +kernel
theorem dX12_aLetter_41 : decode cX12_aLetter 41 = .ok (.invokevirtual 199, 3) := dGR_25_c_825.1
theorem dX12_aLetter_44 : decode cX12_aLetter 44 = .ok (.aload_n 0, 1) := dGR_25_c_825.2.1
theorem dX12_aLetter_45 : decode cX12_aLetter 45 = .ok (.ldc 219, 2) := dGR_25_c_825.2.2.1
theorem dX12_aLetter_47 : decode cX12_aLetter 47 = .ok (.invokevirtual 224, 3) := dGR_25_c_825.2.2.2.1
theorem dX12_aLetter_50 : decode cX12_aLetter 50 = .ok (.ifCond .ne 9, 3) := dGR_25_c_825.2.2.2.2.1
theorem dX12_aLetter_53 : decode cX12_aLetter 53 = .ok (.aload_n 0, 1) := dGR_25_c_825.2.2.2.2.2.1
theorem dX12_aLetter_54 : decode cX12_aLetter 54 = .ok (.iconst 2, 1) := dGR_25_c_825.2.2.2.2.2.2.1
theorem dX12_aLetter_55 : decode cX12_aLetter 55 = .ok (.invokevirtual 205, 3) := dGR_25_c_825.2.2.2.2.2.2.2.1
theorem dX12_aLetter_58 : decode cX12_aLetter 58 = .ok (.ireturn, 1) := dGR_25_c_825.2.2.2.2.2.2.2.2.1
theorem dX12_aLetter_59 : decode cX12_aLetter 59 = .ok (.aload_n 0, 1) := dGR_25_c_825.2.2.2.2.2.2.2.2.2.1
theorem dX12_aLetter_60 : decode cX12_aLetter 60 = .ok (.invokevirtual 228, 3) := dGR_25_c_825.2.2.2.2.2.2.2.2.2.2.1
theorem dX12_aLetter_63 : decode cX12_aLetter 63 = .ok (.iconst (-1), 1) := dGR_25_c_825.2.2.2.2.2.2.2.2.2.2.2
set_option maxRecDepth 100000 in
theorem dGR_25_c_826 : (decode cX12_aLetter 64 = .ok (.if_icmp .eq 9, 3)) ∧ (decode cX12_aLetter 67 = .ok (.aload_n 0, 1)) ∧ (decode cX12_aLetter 68 = .ok (.iconst 3, 1)) ∧ (decode cX12_aLetter 69 = .ok (.invokevirtual 205, 3)) ∧ (decode cX12_aLetter 72 = .ok (.ireturn, 1)) ∧ (decode cX12_aLetter 73 = .ok (.aload_n 0, 1)) ∧ (decode cX12_aLetter 74 = .ok (.getfield 13, 3)) ∧ (decode cX12_aLetter 77 = .ok (.bipush 24, 2)) ∧ (decode cX12_aLetter 79 = .ok (.iconst 2, 1)) ∧ (decode cX12_aLetter 80 = .ok (.iload_n 1, 1)) ∧ (decode cX12_aLetter 81 = .ok (.imul, 1)) ∧ (decode cX12_aLetter 82 = .ok (.iadd, 1)) := by decide +kernel
theorem dX12_aLetter_64 : decode cX12_aLetter 64 = .ok (.if_icmp .eq 9, 3) := dGR_25_c_826.1
theorem dX12_aLetter_67 : decode cX12_aLetter 67 = .ok (.aload_n 0, 1) := dGR_25_c_826.2.1
theorem dX12_aLetter_68 : decode cX12_aLetter 68 = .ok (.iconst 3, 1) := dGR_25_c_826.2.2.1
theorem dX12_aLetter_69 : decode cX12_aLetter 69 = .ok (.invokevirtual 205, 3) := dGR_25_c_826.2.2.2.1
theorem dX12_aLetter_72 : decode cX12_aLetter 72 = .ok (.ireturn, 1) := dGR_25_c_826.2.2.2.2.1
theorem dX12_aLetter_73 : decode cX12_aLetter 73 = .ok (.aload_n 0, 1) := dGR_25_c_826.2.2.2.2.2.1
theorem dX12_aLetter_74 : decode cX12_aLetter 74 = .ok (.getfield 13, 3) := dGR_25_c_826.2.2.2.2.2.2.1
theorem dX12_aLetter_77 : decode cX12_aLetter 77 = .ok (.bipush 24, 2) := dGR_25_c_826.2.2.2.2.2.2.2.1
theorem dX12_aLetter_79 : decode cX12_aLetter 79 = .ok (.iconst 2, 1) := dGR_25_c_826.2.2.2.2.2.2.2.2.1
theorem dX12_aLetter_80 : decode cX12_aLetter 80 = .ok (.iload_n 1, 1) := dGR_25_c_826.2.2.2.2.2.2.2.2.2.1
theorem dX12_aLetter_81 : decode cX12_aLetter 81 = .ok (.imul, 1) := dGR_25_c_826.2.2.2.2.2.2.2.2.2.2.1
theorem dX12_aLetter_82 : decode cX12_aLetter 82 = .ok (.iadd, 1) := dGR_25_c_826.2.2.2.2.2.2.2.2.2.2.2
set_option maxRecDepth 100000 in
theorem dGR_25_c_827 : (decode cX12_aLetter 83 = .ok (.iload_n 2, 1)) ∧ (decode cX12_aLetter 84 = .ok (.iadd, 1)) ∧ (decode cX12_aLetter 85 = .ok (.aload_n 0, 1)) ∧ (decode cX12_aLetter 86 = .ok (.invokevirtual 212, 3)) ∧ (decode cX12_aLetter 89 = .ok (.lastore, 1)) ∧ (decode cX12_aLetter 90 = .ok (.aload_n 0, 1)) ∧ (decode cX12_aLetter 91 = .ok (.getfield 7, 3)) ∧ (decode cX12_aLetter 94 = .ok (.sipush 1088, 3)) ∧ (decode cX12_aLetter 97 = .ok (.iload_n 1, 1)) ∧ (decode cX12_aLetter 98 = .ok (.iadd, 1)) ∧ (decode cX12_aLetter 99 = .ok (.dup2, 1)) ∧ (decode cX12_aLetter 100 = .ok (.iaload, 1)) := by decide +kernel
theorem dX12_aLetter_83 : decode cX12_aLetter 83 = .ok (.iload_n 2, 1) := dGR_25_c_827.1
theorem dX12_aLetter_84 : decode cX12_aLetter 84 = .ok (.iadd, 1) := dGR_25_c_827.2.1
theorem dX12_aLetter_85 : decode cX12_aLetter 85 = .ok (.aload_n 0, 1) := dGR_25_c_827.2.2.1
theorem dX12_aLetter_86 : decode cX12_aLetter 86 = .ok (.invokevirtual 212, 3) := dGR_25_c_827.2.2.2.1
theorem dX12_aLetter_89 : decode cX12_aLetter 89 = .ok (.lastore, 1) := dGR_25_c_827.2.2.2.2.1
theorem dX12_aLetter_90 : decode cX12_aLetter 90 = .ok (.aload_n 0, 1) := dGR_25_c_827.2.2.2.2.2.1
theorem dX12_aLetter_91 : decode cX12_aLetter 91 = .ok (.getfield 7, 3) := dGR_25_c_827.2.2.2.2.2.2.1
theorem dX12_aLetter_94 : decode cX12_aLetter 94 = .ok (.sipush 1088, 3) := dGR_25_c_827.2.2.2.2.2.2.2.1
theorem dX12_aLetter_97 : decode cX12_aLetter 97 = .ok (.iload_n 1, 1) := dGR_25_c_827.2.2.2.2.2.2.2.2.1
theorem dX12_aLetter_98 : decode cX12_aLetter 98 = .ok (.iadd, 1) := dGR_25_c_827.2.2.2.2.2.2.2.2.2.1
theorem dX12_aLetter_99 : decode cX12_aLetter 99 = .ok (.dup2, 1) := dGR_25_c_827.2.2.2.2.2.2.2.2.2.2.1
theorem dX12_aLetter_100 : decode cX12_aLetter 100 = .ok (.iaload, 1) := dGR_25_c_827.2.2.2.2.2.2.2.2.2.2.2
set_option maxRecDepth 100000 in
theorem dGR_25_c_828 : (decode cX12_aLetter 101 = .ok (.iconst 1, 1)) ∧ (decode cX12_aLetter 102 = .ok (.iadd, 1)) ∧ (decode cX12_aLetter 103 = .ok (.iastore, 1)) ∧ (decode cX12_aLetter 104 = .ok (.aload_n 0, 1)) ∧ (decode cX12_aLetter 105 = .ok (.invokevirtual 199, 3)) ∧ (decode cX12_aLetter 108 = .ok (.iconst 1, 1)) ∧ (decode cX12_aLetter 109 = .ok (.ireturn, 1)) := by decide +kernel
theorem dX12_aLetter_101 : decode cX12_aLetter 101 = .ok (.iconst 1, 1) := dGR_25_c_828.1
theorem dX12_aLetter_102 : decode cX12_aLetter 102 = .ok (.iadd, 1) := dGR_25_c_828.2.1
theorem dX12_aLetter_103 : decode cX12_aLetter 103 = .ok (.iastore, 1) := dGR_25_c_828.2.2.1
theorem dX12_aLetter_104 : decode cX12_aLetter 104 = .ok (.aload_n 0, 1) := dGR_25_c_828.2.2.2.1
theorem dX12_aLetter_105 : decode cX12_aLetter 105 = .ok (.invokevirtual 199, 3) := dGR_25_c_828.2.2.2.2.1
theorem dX12_aLetter_108 : decode cX12_aLetter 108 = .ok (.iconst 1, 1) := dGR_25_c_828.2.2.2.2.2.1
theorem dX12_aLetter_109 : decode cX12_aLetter 109 = .ok (.ireturn, 1) := dGR_25_c_828.2.2.2.2.2.2
set_option maxRecDepth 100000 in
theorem dGR_25_c_829 : (decode cX12_anAutomaton 0 = .ok (.aload_n 0, 1)) ∧ (decode cX12_anAutomaton 1 = .ok (.getfield 7, 3)) ∧ (decode cX12_anAutomaton 4 = .ok (.sipush 1091, 3)) ∧ (decode cX12_anAutomaton 7 = .ok (.iaload, 1)) ∧ (decode cX12_anAutomaton 8 = .ok (.istore_n 1, 1)) ∧ (decode cX12_anAutomaton 9 = .ok (.iload_n 1, 1)) ∧ (decode cX12_anAutomaton 10 = .ok (.iconst 2, 1)) ∧ (decode cX12_anAutomaton 11 = .ok (.if_icmp .ne 10, 3)) ∧ (decode cX12_anAutomaton 14 = .ok (.aload_n 0, 1)) ∧ (decode cX12_anAutomaton 15 = .ok (.bipush 6, 2)) ∧ (decode cX12_anAutomaton 17 = .ok (.invokevirtual 205, 3)) ∧ (decode cX12_anAutomaton 20 = .ok (.ireturn, 1)) := by decide +kernel
theorem dX12_anAutomaton_0 : decode cX12_anAutomaton 0 = .ok (.aload_n 0, 1) := dGR_25_c_829.1
theorem dX12_anAutomaton_1 : decode cX12_anAutomaton 1 = .ok (.getfield 7, 3) := dGR_25_c_829.2.1
theorem dX12_anAutomaton_4 : decode cX12_anAutomaton 4 = .ok (.sipush 1091, 3) := dGR_25_c_829.2.2.1
theorem dX12_anAutomaton_7 : decode cX12_anAutomaton 7 = .ok (.iaload, 1) := dGR_25_c_829.2.2.2.1
theorem dX12_anAutomaton_8 : decode cX12_anAutomaton 8 = .ok (.istore_n 1, 1) := dGR_25_c_829.2.2.2.2.1
theorem dX12_anAutomaton_9 : decode cX12_anAutomaton 9 = .ok (.iload_n 1, 1) := dGR_25_c_829.2.2.2.2.2.1
theorem dX12_anAutomaton_10 : decode cX12_anAutomaton 10 = .ok (.iconst 2, 1) := dGR_25_c_829.2.2.2.2.2.2.1
theorem dX12_anAutomaton_11 : decode cX12_anAutomaton 11 = .ok (.if_icmp .ne 10, 3) := dGR_25_c_829.2.2.2.2.2.2.2.1
theorem dX12_anAutomaton_14 : decode cX12_anAutomaton 14 = .ok (.aload_n 0, 1) := dGR_25_c_829.2.2.2.2.2.2.2.2.1
theorem dX12_anAutomaton_15 : decode cX12_anAutomaton 15 = .ok (.bipush 6, 2) := dGR_25_c_829.2.2.2.2.2.2.2.2.2.1
theorem dX12_anAutomaton_17 : decode cX12_anAutomaton 17 = .ok (.invokevirtual 205, 3) := dGR_25_c_829.2.2.2.2.2.2.2.2.2.2.1
theorem dX12_anAutomaton_20 : decode cX12_anAutomaton 20 = .ok (.ireturn, 1) := dGR_25_c_829.2.2.2.2.2.2.2.2.2.2.2
set_option maxRecDepth 100000 in
theorem dGR_25_c_830 : (decode cX12_anAutomaton 21 = .ok (.sipush 1088, 3)) ∧ (decode cX12_anAutomaton 24 = .ok (.iload_n 1, 1)) ∧ (decode cX12_anAutomaton 25 = .ok (.invokestatic 216, 3)) ∧ (decode cX12_anAutomaton 28 = .ok (.istore_n 2, 1)) ∧ (decode cX12_anAutomaton 29 = .ok (.aload_n 0, 1)) ∧ (decode cX12_anAutomaton 30 = .ok (.invokevirtual 199, 3)) ∧ (decode cX12_anAutomaton 33 = .ok (.aload_n 0, 1)) ∧ (decode cX12_anAutomaton 34 = .ok (.iload_n 2, 1)) ∧ (decode cX12_anAutomaton 35 = .ok (.iconst 1, 1)) ∧ (decode cX12_anAutomaton 36 = .ok (.iconst 3, 1)) ∧ (decode cX12_anAutomaton 37 = .ok (.invokevirtual 231, 3)) ∧ (decode cX12_anAutomaton 40 = .ok (.ifCond .eq 26, 3)) := by decide +kernel
theorem dX12_anAutomaton_21 : decode cX12_anAutomaton 21 = .ok (.sipush 1088, 3) := dGR_25_c_830.1
theorem dX12_anAutomaton_24 : decode cX12_anAutomaton 24 = .ok (.iload_n 1, 1) := dGR_25_c_830.2.1
theorem dX12_anAutomaton_25 : decode cX12_anAutomaton 25 = .ok (.invokestatic 216, 3) := dGR_25_c_830.2.2.1
theorem dX12_anAutomaton_28 : decode cX12_anAutomaton 28 = .ok (.istore_n 2, 1) := dGR_25_c_830.2.2.2.1
theorem dX12_anAutomaton_29 : decode cX12_anAutomaton 29 = .ok (.aload_n 0, 1) := dGR_25_c_830.2.2.2.2.1
theorem dX12_anAutomaton_30 : decode cX12_anAutomaton 30 = .ok (.invokevirtual 199, 3) := dGR_25_c_830.2.2.2.2.2.1
theorem dX12_anAutomaton_33 : decode cX12_anAutomaton 33 = .ok (.aload_n 0, 1) := dGR_25_c_830.2.2.2.2.2.2.1
theorem dX12_anAutomaton_34 : decode cX12_anAutomaton 34 = .ok (.iload_n 2, 1) := dGR_25_c_830.2.2.2.2.2.2.2.1
theorem dX12_anAutomaton_35 : decode cX12_anAutomaton 35 = .ok (.iconst 1, 1) := dGR_25_c_830.2.2.2.2.2.2.2.2.1
theorem dX12_anAutomaton_36 : decode cX12_anAutomaton 36 = .ok (.iconst 3, 1) := dGR_25_c_830.2.2.2.2.2.2.2.2.2.1
theorem dX12_anAutomaton_37 : decode cX12_anAutomaton 37 = .ok (.invokevirtual 231, 3) := dGR_25_c_830.2.2.2.2.2.2.2.2.2.2.1
theorem dX12_anAutomaton_40 : decode cX12_anAutomaton 40 = .ok (.ifCond .eq 26, 3) := dGR_25_c_830.2.2.2.2.2.2.2.2.2.2.2
set_option maxRecDepth 100000 in
theorem dGR_25_c_831 : (decode cX12_anAutomaton 43 = .ok (.aload_n 0, 1)) ∧ (decode cX12_anAutomaton 44 = .ok (.ldc 219, 2)) ∧ (decode cX12_anAutomaton 46 = .ok (.bipush 7, 2)) ∧ (decode cX12_anAutomaton 48 = .ok (.invokevirtual 235, 3)) ∧ (decode cX12_anAutomaton 51 = .ok (.ifCond .eq 15, 3)) ∧ (decode cX12_anAutomaton 54 = .ok (.aload_n 0, 1)) ∧ (decode cX12_anAutomaton 55 = .ok (.iload_n 2, 1)) ∧ (decode cX12_anAutomaton 56 = .ok (.iconst 1, 1)) ∧ (decode cX12_anAutomaton 57 = .ok (.iadd, 1)) ∧ (decode cX12_anAutomaton 58 = .ok (.iconst 1, 1)) ∧ (decode cX12_anAutomaton 59 = .ok (.iconst 3, 1)) ∧ (decode cX12_anAutomaton 60 = .ok (.invokevirtual 231, 3)) := by decide +kernel
theorem dX12_anAutomaton_43 : decode cX12_anAutomaton 43 = .ok (.aload_n 0, 1) := dGR_25_c_831.1
theorem dX12_anAutomaton_44 : decode cX12_anAutomaton 44 = .ok (.ldc 219, 2) := dGR_25_c_831.2.1
theorem dX12_anAutomaton_46 : decode cX12_anAutomaton 46 = .ok (.bipush 7, 2) := dGR_25_c_831.2.2.1
theorem dX12_anAutomaton_48 : decode cX12_anAutomaton 48 = .ok (.invokevirtual 235, 3) := dGR_25_c_831.2.2.2.1
theorem dX12_anAutomaton_51 : decode cX12_anAutomaton 51 = .ok (.ifCond .eq 15, 3) := dGR_25_c_831.2.2.2.2.1
theorem dX12_anAutomaton_54 : decode cX12_anAutomaton 54 = .ok (.aload_n 0, 1) := dGR_25_c_831.2.2.2.2.2.1
theorem dX12_anAutomaton_55 : decode cX12_anAutomaton 55 = .ok (.iload_n 2, 1) := dGR_25_c_831.2.2.2.2.2.2.1
theorem dX12_anAutomaton_56 : decode cX12_anAutomaton 56 = .ok (.iconst 1, 1) := dGR_25_c_831.2.2.2.2.2.2.2.1
theorem dX12_anAutomaton_57 : decode cX12_anAutomaton 57 = .ok (.iadd, 1) := dGR_25_c_831.2.2.2.2.2.2.2.2.1
theorem dX12_anAutomaton_58 : decode cX12_anAutomaton 58 = .ok (.iconst 1, 1) := dGR_25_c_831.2.2.2.2.2.2.2.2.2.1
theorem dX12_anAutomaton_59 : decode cX12_anAutomaton 59 = .ok (.iconst 3, 1) := dGR_25_c_831.2.2.2.2.2.2.2.2.2.2.1
theorem dX12_anAutomaton_60 : decode cX12_anAutomaton 60 = .ok (.invokevirtual 231, 3) := dGR_25_c_831.2.2.2.2.2.2.2.2.2.2.2
set_option maxRecDepth 100000 in
theorem dGR_25_c_832 : (decode cX12_anAutomaton 63 = .ok (.ifCond .ne 5, 3)) ∧ (decode cX12_anAutomaton 66 = .ok (.iconst 0, 1)) ∧ (decode cX12_anAutomaton 67 = .ok (.ireturn, 1)) ∧ (decode cX12_anAutomaton 68 = .ok (.aload_n 0, 1)) ∧ (decode cX12_anAutomaton 69 = .ok (.getfield 7, 3)) ∧ (decode cX12_anAutomaton 72 = .ok (.iload_n 2, 1)) ∧ (decode cX12_anAutomaton 73 = .ok (.iconst 2, 1)) ∧ (decode cX12_anAutomaton 74 = .ok (.iadd, 1)) ∧ (decode cX12_anAutomaton 75 = .ok (.iconst 0, 1)) ∧ (decode cX12_anAutomaton 76 = .ok (.iastore, 1)) ∧ (decode cX12_anAutomaton 77 = .ok (.aload_n 0, 1)) ∧ (decode cX12_anAutomaton 78 = .ok (.getfield 7, 3)) := by decide +kernel
theorem dX12_anAutomaton_63 : decode cX12_anAutomaton 63 = .ok (.ifCond .ne 5, 3) := dGR_25_c_832.1
theorem dX12_anAutomaton_66 : decode cX12_anAutomaton 66 = .ok (.iconst 0, 1) := dGR_25_c_832.2.1
theorem dX12_anAutomaton_67 : decode cX12_anAutomaton 67 = .ok (.ireturn, 1) := dGR_25_c_832.2.2.1
theorem dX12_anAutomaton_68 : decode cX12_anAutomaton 68 = .ok (.aload_n 0, 1) := dGR_25_c_832.2.2.2.1
theorem dX12_anAutomaton_69 : decode cX12_anAutomaton 69 = .ok (.getfield 7, 3) := dGR_25_c_832.2.2.2.2.1
theorem dX12_anAutomaton_72 : decode cX12_anAutomaton 72 = .ok (.iload_n 2, 1) := dGR_25_c_832.2.2.2.2.2.1
theorem dX12_anAutomaton_73 : decode cX12_anAutomaton 73 = .ok (.iconst 2, 1) := dGR_25_c_832.2.2.2.2.2.2.1
theorem dX12_anAutomaton_74 : decode cX12_anAutomaton 74 = .ok (.iadd, 1) := dGR_25_c_832.2.2.2.2.2.2.2.1
theorem dX12_anAutomaton_75 : decode cX12_anAutomaton 75 = .ok (.iconst 0, 1) := dGR_25_c_832.2.2.2.2.2.2.2.2.1
theorem dX12_anAutomaton_76 : decode cX12_anAutomaton 76 = .ok (.iastore, 1) := dGR_25_c_832.2.2.2.2.2.2.2.2.2.1
theorem dX12_anAutomaton_77 : decode cX12_anAutomaton 77 = .ok (.aload_n 0, 1) := dGR_25_c_832.2.2.2.2.2.2.2.2.2.2.1
theorem dX12_anAutomaton_78 : decode cX12_anAutomaton 78 = .ok (.getfield 7, 3) := dGR_25_c_832.2.2.2.2.2.2.2.2.2.2.2
set_option maxRecDepth 100000 in
theorem dGR_25_c_833 : (decode cX12_anAutomaton 81 = .ok (.iload_n 2, 1)) ∧ (decode cX12_anAutomaton 82 = .ok (.iconst 3, 1)) ∧ (decode cX12_anAutomaton 83 = .ok (.iadd, 1)) ∧ (decode cX12_anAutomaton 84 = .ok (.iconst 0, 1)) ∧ (decode cX12_anAutomaton 85 = .ok (.iastore, 1)) ∧ (decode cX12_anAutomaton 86 = .ok (.aload_n 0, 1)) ∧ (decode cX12_anAutomaton 87 = .ok (.getfield 7, 3)) ∧ (decode cX12_anAutomaton 90 = .ok (.iload_n 2, 1)) ∧ (decode cX12_anAutomaton 91 = .ok (.iconst 4, 1)) ∧ (decode cX12_anAutomaton 92 = .ok (.iadd, 1)) ∧ (decode cX12_anAutomaton 93 = .ok (.iconst 0, 1)) ∧ (decode cX12_anAutomaton 94 = .ok (.iastore, 1)) := by decide +kernel
theorem dX12_anAutomaton_81 : decode cX12_anAutomaton 81 = .ok (.iload_n 2, 1) := dGR_25_c_833.1
theorem dX12_anAutomaton_82 : decode cX12_anAutomaton 82 = .ok (.iconst 3, 1) := dGR_25_c_833.2.1
theorem dX12_anAutomaton_83 : decode cX12_anAutomaton 83 = .ok (.iadd, 1) := dGR_25_c_833.2.2.1
theorem dX12_anAutomaton_84 : decode cX12_anAutomaton 84 = .ok (.iconst 0, 1) := dGR_25_c_833.2.2.2.1
theorem dX12_anAutomaton_85 : decode cX12_anAutomaton 85 = .ok (.iastore, 1) := dGR_25_c_833.2.2.2.2.1
theorem dX12_anAutomaton_86 : decode cX12_anAutomaton 86 = .ok (.aload_n 0, 1) := dGR_25_c_833.2.2.2.2.2.1
theorem dX12_anAutomaton_87 : decode cX12_anAutomaton 87 = .ok (.getfield 7, 3) := dGR_25_c_833.2.2.2.2.2.2.1
theorem dX12_anAutomaton_90 : decode cX12_anAutomaton 90 = .ok (.iload_n 2, 1) := dGR_25_c_833.2.2.2.2.2.2.2.1
theorem dX12_anAutomaton_91 : decode cX12_anAutomaton 91 = .ok (.iconst 4, 1) := dGR_25_c_833.2.2.2.2.2.2.2.2.1
theorem dX12_anAutomaton_92 : decode cX12_anAutomaton 92 = .ok (.iadd, 1) := dGR_25_c_833.2.2.2.2.2.2.2.2.2.1
theorem dX12_anAutomaton_93 : decode cX12_anAutomaton 93 = .ok (.iconst 0, 1) := dGR_25_c_833.2.2.2.2.2.2.2.2.2.2.1
theorem dX12_anAutomaton_94 : decode cX12_anAutomaton 94 = .ok (.iastore, 1) := dGR_25_c_833.2.2.2.2.2.2.2.2.2.2.2
set_option maxRecDepth 100000 in
theorem dGR_25_c_834 : (decode cX12_anAutomaton 95 = .ok (.aload_n 0, 1)) ∧ (decode cX12_anAutomaton 96 = .ok (.getfield 7, 3)) ∧ (decode cX12_anAutomaton 99 = .ok (.sipush 1091, 3)) ∧ (decode cX12_anAutomaton 102 = .ok (.dup2, 1)) ∧ (decode cX12_anAutomaton 103 = .ok (.iaload, 1)) ∧ (decode cX12_anAutomaton 104 = .ok (.iconst 1, 1)) ∧ (decode cX12_anAutomaton 105 = .ok (.iadd, 1)) ∧ (decode cX12_anAutomaton 106 = .ok (.iastore, 1)) ∧ (decode cX12_anAutomaton 107 = .ok (.iconst 1, 1)) ∧ (decode cX12_anAutomaton 108 = .ok (.ireturn, 1)) := by decide +kernel
theorem dX12_anAutomaton_95 : decode cX12_anAutomaton 95 = .ok (.aload_n 0, 1) := dGR_25_c_834.1
theorem dX12_anAutomaton_96 : decode cX12_anAutomaton 96 = .ok (.getfield 7, 3) := dGR_25_c_834.2.1
theorem dX12_anAutomaton_99 : decode cX12_anAutomaton 99 = .ok (.sipush 1091, 3) := dGR_25_c_834.2.2.1
theorem dX12_anAutomaton_102 : decode cX12_anAutomaton 102 = .ok (.dup2, 1) := dGR_25_c_834.2.2.2.1
theorem dX12_anAutomaton_103 : decode cX12_anAutomaton 103 = .ok (.iaload, 1) := dGR_25_c_834.2.2.2.2.1
theorem dX12_anAutomaton_104 : decode cX12_anAutomaton 104 = .ok (.iconst 1, 1) := dGR_25_c_834.2.2.2.2.2.1
theorem dX12_anAutomaton_105 : decode cX12_anAutomaton 105 = .ok (.iadd, 1) := dGR_25_c_834.2.2.2.2.2.2.1
theorem dX12_anAutomaton_106 : decode cX12_anAutomaton 106 = .ok (.iastore, 1) := dGR_25_c_834.2.2.2.2.2.2.2.1
theorem dX12_anAutomaton_107 : decode cX12_anAutomaton 107 = .ok (.iconst 1, 1) := dGR_25_c_834.2.2.2.2.2.2.2.2.1
theorem dX12_anAutomaton_108 : decode cX12_anAutomaton 108 = .ok (.ireturn, 1) := dGR_25_c_834.2.2.2.2.2.2.2.2.2
set_option maxRecDepth 100000 in
theorem dGR_25_c_835 : (decode cX12_isRule 0 = .ok (.iconst 0, 1)) ∧ (decode cX12_isRule 1 = .ok (.istore 8, 2)) ∧ (decode cX12_isRule 3 = .ok (.iload 8, 2)) ∧ (decode cX12_isRule 5 = .ok (.iload_n 3, 1)) ∧ (decode cX12_isRule 6 = .ok (.if_icmp .ge 74, 3)) ∧ (decode cX12_isRule 9 = .ok (.iload_n 1, 1)) ∧ (decode cX12_isRule 10 = .ok (.iload_n 2, 1)) ∧ (decode cX12_isRule 11 = .ok (.iload 8, 2)) ∧ (decode cX12_isRule 13 = .ok (.invokestatic 243, 3)) ∧ (decode cX12_isRule 16 = .ok (.istore 9, 2)) ∧ (decode cX12_isRule 18 = .ok (.aload_n 0, 1)) ∧ (decode cX12_isRule 19 = .ok (.getfield 7, 3)) := by decide +kernel
theorem dX12_isRule_0 : decode cX12_isRule 0 = .ok (.iconst 0, 1) := dGR_25_c_835.1
theorem dX12_isRule_1 : decode cX12_isRule 1 = .ok (.istore 8, 2) := dGR_25_c_835.2.1
theorem dX12_isRule_3 : decode cX12_isRule 3 = .ok (.iload 8, 2) := dGR_25_c_835.2.2.1
theorem dX12_isRule_5 : decode cX12_isRule 5 = .ok (.iload_n 3, 1) := dGR_25_c_835.2.2.2.1
theorem dX12_isRule_6 : decode cX12_isRule 6 = .ok (.if_icmp .ge 74, 3) := dGR_25_c_835.2.2.2.2.1
theorem dX12_isRule_9 : decode cX12_isRule 9 = .ok (.iload_n 1, 1) := dGR_25_c_835.2.2.2.2.2.1
theorem dX12_isRule_10 : decode cX12_isRule 10 = .ok (.iload_n 2, 1) := dGR_25_c_835.2.2.2.2.2.2.1
theorem dX12_isRule_11 : decode cX12_isRule 11 = .ok (.iload 8, 2) := dGR_25_c_835.2.2.2.2.2.2.2.1
theorem dX12_isRule_13 : decode cX12_isRule 13 = .ok (.invokestatic 243, 3) := dGR_25_c_835.2.2.2.2.2.2.2.2.1
theorem dX12_isRule_16 : decode cX12_isRule 16 = .ok (.istore 9, 2) := dGR_25_c_835.2.2.2.2.2.2.2.2.2.1
theorem dX12_isRule_18 : decode cX12_isRule 18 = .ok (.aload_n 0, 1) := dGR_25_c_835.2.2.2.2.2.2.2.2.2.2.1
theorem dX12_isRule_19 : decode cX12_isRule 19 = .ok (.getfield 7, 3) := dGR_25_c_835.2.2.2.2.2.2.2.2.2.2.2
set_option maxRecDepth 100000 in
theorem dGR_25_c_836 : (decode cX12_isRule 22 = .ok (.iload 9, 2)) ∧ (decode cX12_isRule 24 = .ok (.iaload, 1)) ∧ (decode cX12_isRule 25 = .ok (.iload 4, 2)) ∧ (decode cX12_isRule 27 = .ok (.if_icmp .ne 47, 3)) ∧ (decode cX12_isRule 30 = .ok (.aload_n 0, 1)) ∧ (decode cX12_isRule 31 = .ok (.getfield 7, 3)) ∧ (decode cX12_isRule 34 = .ok (.iload 9, 2)) ∧ (decode cX12_isRule 36 = .ok (.iconst 1, 1)) ∧ (decode cX12_isRule 37 = .ok (.iadd, 1)) ∧ (decode cX12_isRule 38 = .ok (.iaload, 1)) ∧ (decode cX12_isRule 39 = .ok (.iload 5, 2)) ∧ (decode cX12_isRule 41 = .ok (.if_icmp .ne 33, 3)) := by decide +kernel
theorem dX12_isRule_22 : decode cX12_isRule 22 = .ok (.iload 9, 2) := dGR_25_c_836.1
theorem dX12_isRule_24 : decode cX12_isRule 24 = .ok (.iaload, 1) := dGR_25_c_836.2.1
theorem dX12_isRule_25 : decode cX12_isRule 25 = .ok (.iload 4, 2) := dGR_25_c_836.2.2.1
theorem dX12_isRule_27 : decode cX12_isRule 27 = .ok (.if_icmp .ne 47, 3) := dGR_25_c_836.2.2.2.1
theorem dX12_isRule_30 : decode cX12_isRule 30 = .ok (.aload_n 0, 1) := dGR_25_c_836.2.2.2.2.1
theorem dX12_isRule_31 : decode cX12_isRule 31 = .ok (.getfield 7, 3) := dGR_25_c_836.2.2.2.2.2.1
theorem dX12_isRule_34 : decode cX12_isRule 34 = .ok (.iload 9, 2) := dGR_25_c_836.2.2.2.2.2.2.1
theorem dX12_isRule_36 : decode cX12_isRule 36 = .ok (.iconst 1, 1) := dGR_25_c_836.2.2.2.2.2.2.2.1
theorem dX12_isRule_37 : decode cX12_isRule 37 = .ok (.iadd, 1) := dGR_25_c_836.2.2.2.2.2.2.2.2.1
theorem dX12_isRule_38 : decode cX12_isRule 38 = .ok (.iaload, 1) := dGR_25_c_836.2.2.2.2.2.2.2.2.2.1
theorem dX12_isRule_39 : decode cX12_isRule 39 = .ok (.iload 5, 2) := dGR_25_c_836.2.2.2.2.2.2.2.2.2.2.1
theorem dX12_isRule_41 : decode cX12_isRule 41 = .ok (.if_icmp .ne 33, 3) := dGR_25_c_836.2.2.2.2.2.2.2.2.2.2.2
set_option maxRecDepth 100000 in
theorem dGR_25_c_837 : (decode cX12_isRule 44 = .ok (.aload_n 0, 1)) ∧ (decode cX12_isRule 45 = .ok (.getfield 7, 3)) ∧ (decode cX12_isRule 48 = .ok (.iload 9, 2)) ∧ (decode cX12_isRule 50 = .ok (.iconst 2, 1)) ∧ (decode cX12_isRule 51 = .ok (.iadd, 1)) ∧ (decode cX12_isRule 52 = .ok (.iaload, 1)) ∧ (decode cX12_isRule 53 = .ok (.iload 6, 2)) ∧ (decode cX12_isRule 55 = .ok (.if_icmp .ne 19, 3)) ∧ (decode cX12_isRule 58 = .ok (.aload_n 0, 1)) ∧ (decode cX12_isRule 59 = .ok (.getfield 7, 3)) ∧ (decode cX12_isRule 62 = .ok (.iload 9, 2)) ∧ (decode cX12_isRule 64 = .ok (.iconst 3, 1)) := by decide +kernel
theorem dX12_isRule_44 : decode cX12_isRule 44 = .ok (.aload_n 0, 1) := dGR_25_c_837.1
theorem dX12_isRule_45 : decode cX12_isRule 45 = .ok (.getfield 7, 3) := dGR_25_c_837.2.1
theorem dX12_isRule_48 : decode cX12_isRule 48 = .ok (.iload 9, 2) := dGR_25_c_837.2.2.1
theorem dX12_isRule_50 : decode cX12_isRule 50 = .ok (.iconst 2, 1) := dGR_25_c_837.2.2.2.1
theorem dX12_isRule_51 : decode cX12_isRule 51 = .ok (.iadd, 1) := dGR_25_c_837.2.2.2.2.1
theorem dX12_isRule_52 : decode cX12_isRule 52 = .ok (.iaload, 1) := dGR_25_c_837.2.2.2.2.2.1
theorem dX12_isRule_53 : decode cX12_isRule 53 = .ok (.iload 6, 2) := dGR_25_c_837.2.2.2.2.2.2.1
theorem dX12_isRule_55 : decode cX12_isRule 55 = .ok (.if_icmp .ne 19, 3) := dGR_25_c_837.2.2.2.2.2.2.2.1
theorem dX12_isRule_58 : decode cX12_isRule 58 = .ok (.aload_n 0, 1) := dGR_25_c_837.2.2.2.2.2.2.2.2.1
theorem dX12_isRule_59 : decode cX12_isRule 59 = .ok (.getfield 7, 3) := dGR_25_c_837.2.2.2.2.2.2.2.2.2.1
theorem dX12_isRule_62 : decode cX12_isRule 62 = .ok (.iload 9, 2) := dGR_25_c_837.2.2.2.2.2.2.2.2.2.2.1
theorem dX12_isRule_64 : decode cX12_isRule 64 = .ok (.iconst 3, 1) := dGR_25_c_837.2.2.2.2.2.2.2.2.2.2.2
set_option maxRecDepth 100000 in
theorem dGR_25_c_838 : (decode cX12_isRule 65 = .ok (.iadd, 1)) ∧ (decode cX12_isRule 66 = .ok (.iaload, 1)) ∧ (decode cX12_isRule 67 = .ok (.iload 7, 2)) ∧ (decode cX12_isRule 69 = .ok (.if_icmp .ne 5, 3)) ∧ (decode cX12_isRule 72 = .ok (.iconst 1, 1)) ∧ (decode cX12_isRule 73 = .ok (.ireturn, 1)) ∧ (decode cX12_isRule 74 = .ok (.iinc 8 1, 3)) ∧ (decode cX12_isRule 77 = .ok (.goto (-74), 3)) ∧ (decode cX12_isRule 80 = .ok (.iconst 0, 1)) ∧ (decode cX12_isRule 81 = .ok (.ireturn, 1)) := by decide +kernel
theorem dX12_isRule_65 : decode cX12_isRule 65 = .ok (.iadd, 1) := dGR_25_c_838.1
theorem dX12_isRule_66 : decode cX12_isRule 66 = .ok (.iaload, 1) := dGR_25_c_838.2.1
theorem dX12_isRule_67 : decode cX12_isRule 67 = .ok (.iload 7, 2) := dGR_25_c_838.2.2.1
theorem dX12_isRule_69 : decode cX12_isRule 69 = .ok (.if_icmp .ne 5, 3) := dGR_25_c_838.2.2.2.1
theorem dX12_isRule_72 : decode cX12_isRule 72 = .ok (.iconst 1, 1) := dGR_25_c_838.2.2.2.2.1
theorem dX12_isRule_73 : decode cX12_isRule 73 = .ok (.ireturn, 1) := dGR_25_c_838.2.2.2.2.2.1
theorem dX12_isRule_74 : decode cX12_isRule 74 = .ok (.iinc 8 1, 3) := dGR_25_c_838.2.2.2.2.2.2.1
theorem dX12_isRule_77 : decode cX12_isRule 77 = .ok (.goto (-74), 3) := dGR_25_c_838.2.2.2.2.2.2.2.1
theorem dX12_isRule_80 : decode cX12_isRule 80 = .ok (.iconst 0, 1) := dGR_25_c_838.2.2.2.2.2.2.2.2.1
theorem dX12_isRule_81 : decode cX12_isRule 81 = .ok (.ireturn, 1) := dGR_25_c_838.2.2.2.2.2.2.2.2.2
set_option maxRecDepth 100000 in
theorem dGR_25_c_839 : (decode cX12_states 0 = .ok (.sipush 1358, 3)) ∧ (decode cX12_states 3 = .ok (.istore_n 3, 1)) ∧ (decode cX12_states 4 = .ok (.aload_n 0, 1)) ∧ (decode cX12_states 5 = .ok (.invokevirtual 199, 3)) ∧ (decode cX12_states 8 = .ok (.aload_n 0, 1)) ∧ (decode cX12_states 9 = .ok (.getfield 168, 3)) ∧ (decode cX12_states 12 = .ok (.iconst 3, 1)) ∧ (decode cX12_states 13 = .ok (.if_icmp .ne 85, 3)) ∧ (decode cX12_states 16 = .ok (.aload_n 0, 1)) ∧ (decode cX12_states 17 = .ok (.getfield 165, 3)) ∧ (decode cX12_states 20 = .ok (.ifCond .lt 39, 3)) ∧ (decode cX12_states 23 = .ok (.aload_n 0, 1)) := by decide +kernel
theorem dX12_states_0 : decode cX12_states 0 = .ok (.sipush 1358, 3) := dGR_25_c_839.1
theorem dX12_states_3 : decode cX12_states 3 = .ok (.istore_n 3, 1) := dGR_25_c_839.2.1
theorem dX12_states_4 : decode cX12_states 4 = .ok (.aload_n 0, 1) := dGR_25_c_839.2.2.1
theorem dX12_states_5 : decode cX12_states 5 = .ok (.invokevirtual 199, 3) := dGR_25_c_839.2.2.2.1
theorem dX12_states_8 : decode cX12_states 8 = .ok (.aload_n 0, 1) := dGR_25_c_839.2.2.2.2.1
theorem dX12_states_9 : decode cX12_states 9 = .ok (.getfield 168, 3) := dGR_25_c_839.2.2.2.2.2.1
theorem dX12_states_12 : decode cX12_states 12 = .ok (.iconst 3, 1) := dGR_25_c_839.2.2.2.2.2.2.1
theorem dX12_states_13 : decode cX12_states 13 = .ok (.if_icmp .ne 85, 3) := dGR_25_c_839.2.2.2.2.2.2.2.1
theorem dX12_states_16 : decode cX12_states 16 = .ok (.aload_n 0, 1) := dGR_25_c_839.2.2.2.2.2.2.2.2.1
theorem dX12_states_17 : decode cX12_states 17 = .ok (.getfield 165, 3) := dGR_25_c_839.2.2.2.2.2.2.2.2.2.1
theorem dX12_states_20 : decode cX12_states 20 = .ok (.ifCond .lt 39, 3) := dGR_25_c_839.2.2.2.2.2.2.2.2.2.2.1
theorem dX12_states_23 : decode cX12_states 23 = .ok (.aload_n 0, 1) := dGR_25_c_839.2.2.2.2.2.2.2.2.2.2.2
set_option maxRecDepth 100000 in
theorem dGR_25_c_840 : (decode cX12_states 24 = .ok (.getfield 165, 3)) ∧ (decode cX12_states 27 = .ok (.aload_n 0, 1)) ∧ (decode cX12_states 28 = .ok (.getfield 7, 3)) ∧ (decode cX12_states 31 = .ok (.iload_n 1, 1)) ∧ (decode cX12_states 32 = .ok (.iaload, 1)) ∧ (decode cX12_states 33 = .ok (.if_icmp .ge 26, 3)) ∧ (decode cX12_states 36 = .ok (.aload_n 0, 1)) ∧ (decode cX12_states 37 = .ok (.aload_n 0, 1)) ∧ (decode cX12_states 38 = .ok (.getfield 7, 3)) ∧ (decode cX12_states 41 = .ok (.iload_n 2, 1)) ∧ (decode cX12_states 42 = .ok (.iaload, 1)) ∧ (decode cX12_states 43 = .ok (.aload_n 0, 1)) := by decide +kernel
theorem dX12_states_24 : decode cX12_states 24 = .ok (.getfield 165, 3) := dGR_25_c_840.1
theorem dX12_states_27 : decode cX12_states 27 = .ok (.aload_n 0, 1) := dGR_25_c_840.2.1
theorem dX12_states_28 : decode cX12_states 28 = .ok (.getfield 7, 3) := dGR_25_c_840.2.2.1
theorem dX12_states_31 : decode cX12_states 31 = .ok (.iload_n 1, 1) := dGR_25_c_840.2.2.2.1
theorem dX12_states_32 : decode cX12_states 32 = .ok (.iaload, 1) := dGR_25_c_840.2.2.2.2.1
theorem dX12_states_33 : decode cX12_states 33 = .ok (.if_icmp .ge 26, 3) := dGR_25_c_840.2.2.2.2.2.1
theorem dX12_states_36 : decode cX12_states 36 = .ok (.aload_n 0, 1) := dGR_25_c_840.2.2.2.2.2.2.1
theorem dX12_states_37 : decode cX12_states 37 = .ok (.aload_n 0, 1) := dGR_25_c_840.2.2.2.2.2.2.2.1
theorem dX12_states_38 : decode cX12_states 38 = .ok (.getfield 7, 3) := dGR_25_c_840.2.2.2.2.2.2.2.2.1
theorem dX12_states_41 : decode cX12_states 41 = .ok (.iload_n 2, 1) := dGR_25_c_840.2.2.2.2.2.2.2.2.2.1
theorem dX12_states_42 : decode cX12_states 42 = .ok (.iaload, 1) := dGR_25_c_840.2.2.2.2.2.2.2.2.2.2.1
theorem dX12_states_43 : decode cX12_states 43 = .ok (.aload_n 0, 1) := dGR_25_c_840.2.2.2.2.2.2.2.2.2.2.2
set_option maxRecDepth 100000 in
theorem dGR_25_c_841 : (decode cX12_states 44 = .ok (.getfield 165, 3)) ∧ (decode cX12_states 47 = .ok (.invokevirtual 239, 3)) ∧ (decode cX12_states 50 = .ok (.ifCond .eq 9, 3)) ∧ (decode cX12_states 53 = .ok (.aload_n 0, 1)) ∧ (decode cX12_states 54 = .ok (.iconst 5, 1)) ∧ (decode cX12_states 55 = .ok (.invokevirtual 205, 3)) ∧ (decode cX12_states 58 = .ok (.ireturn, 1)) ∧ (decode cX12_states 59 = .ok (.aload_n 0, 1)) ∧ (decode cX12_states 60 = .ok (.iload_n 3, 1)) ∧ (decode cX12_states 61 = .ok (.iconst 0, 1)) ∧ (decode cX12_states 62 = .ok (.aload_n 0, 1)) ∧ (decode cX12_states 63 = .ok (.getfield 7, 3)) := by decide +kernel
theorem dX12_states_44 : decode cX12_states 44 = .ok (.getfield 165, 3) := dGR_25_c_841.1
theorem dX12_states_47 : decode cX12_states 47 = .ok (.invokevirtual 239, 3) := dGR_25_c_841.2.1
theorem dX12_states_50 : decode cX12_states 50 = .ok (.ifCond .eq 9, 3) := dGR_25_c_841.2.2.1
theorem dX12_states_53 : decode cX12_states 53 = .ok (.aload_n 0, 1) := dGR_25_c_841.2.2.2.1
theorem dX12_states_54 : decode cX12_states 54 = .ok (.iconst 5, 1) := dGR_25_c_841.2.2.2.2.1
theorem dX12_states_55 : decode cX12_states 55 = .ok (.invokevirtual 205, 3) := dGR_25_c_841.2.2.2.2.2.1
theorem dX12_states_58 : decode cX12_states 58 = .ok (.ireturn, 1) := dGR_25_c_841.2.2.2.2.2.2.1
theorem dX12_states_59 : decode cX12_states 59 = .ok (.aload_n 0, 1) := dGR_25_c_841.2.2.2.2.2.2.2.1
theorem dX12_states_60 : decode cX12_states 60 = .ok (.iload_n 3, 1) := dGR_25_c_841.2.2.2.2.2.2.2.2.1
theorem dX12_states_61 : decode cX12_states 61 = .ok (.iconst 0, 1) := dGR_25_c_841.2.2.2.2.2.2.2.2.2.1
theorem dX12_states_62 : decode cX12_states 62 = .ok (.aload_n 0, 1) := dGR_25_c_841.2.2.2.2.2.2.2.2.2.2.1
theorem dX12_states_63 : decode cX12_states 63 = .ok (.getfield 7, 3) := dGR_25_c_841.2.2.2.2.2.2.2.2.2.2.2
set_option maxRecDepth 100000 in
theorem dGR_25_c_842 : (decode cX12_states 66 = .ok (.iload_n 1, 1)) ∧ (decode cX12_states 67 = .ok (.iaload, 1)) ∧ (decode cX12_states 68 = .ok (.iconst 1, 1)) ∧ (decode cX12_states 69 = .ok (.isub, 1)) ∧ (decode cX12_states 70 = .ok (.invokevirtual 231, 3)) ∧ (decode cX12_states 73 = .ok (.ifCond .ne 5, 3)) ∧ (decode cX12_states 76 = .ok (.iconst 0, 1)) ∧ (decode cX12_states 77 = .ok (.ireturn, 1)) ∧ (decode cX12_states 78 = .ok (.aload_n 0, 1)) ∧ (decode cX12_states 79 = .ok (.getfield 7, 3)) ∧ (decode cX12_states 82 = .ok (.iload_n 2, 1)) ∧ (decode cX12_states 83 = .ok (.dup2, 1)) := by decide +kernel
theorem dX12_states_66 : decode cX12_states 66 = .ok (.iload_n 1, 1) := dGR_25_c_842.1
theorem dX12_states_67 : decode cX12_states 67 = .ok (.iaload, 1) := dGR_25_c_842.2.1
theorem dX12_states_68 : decode cX12_states 68 = .ok (.iconst 1, 1) := dGR_25_c_842.2.2.1
theorem dX12_states_69 : decode cX12_states 69 = .ok (.isub, 1) := dGR_25_c_842.2.2.2.1
theorem dX12_states_70 : decode cX12_states 70 = .ok (.invokevirtual 231, 3) := dGR_25_c_842.2.2.2.2.1
theorem dX12_states_73 : decode cX12_states 73 = .ok (.ifCond .ne 5, 3) := dGR_25_c_842.2.2.2.2.2.1
theorem dX12_states_76 : decode cX12_states 76 = .ok (.iconst 0, 1) := dGR_25_c_842.2.2.2.2.2.2.1
theorem dX12_states_77 : decode cX12_states 77 = .ok (.ireturn, 1) := dGR_25_c_842.2.2.2.2.2.2.2.1
theorem dX12_states_78 : decode cX12_states 78 = .ok (.aload_n 0, 1) := dGR_25_c_842.2.2.2.2.2.2.2.2.1
theorem dX12_states_79 : decode cX12_states 79 = .ok (.getfield 7, 3) := dGR_25_c_842.2.2.2.2.2.2.2.2.2.1
theorem dX12_states_82 : decode cX12_states 82 = .ok (.iload_n 2, 1) := dGR_25_c_842.2.2.2.2.2.2.2.2.2.2.1
theorem dX12_states_83 : decode cX12_states 83 = .ok (.dup2, 1) := dGR_25_c_842.2.2.2.2.2.2.2.2.2.2.2
set_option maxRecDepth 100000 in
theorem dGR_25_c_843 : (decode cX12_states 84 = .ok (.iaload, 1)) ∧ (decode cX12_states 85 = .ok (.iconst 1, 1)) ∧ (decode cX12_states 86 = .ok (.aload_n 0, 1)) ∧ (decode cX12_states 87 = .ok (.getfield 7, 3)) ∧ (decode cX12_states 90 = .ok (.iload_n 3, 1)) ∧ (decode cX12_states 91 = .ok (.iaload, 1)) ∧ (decode cX12_states 92 = .ok (.ishl, 1)) ∧ (decode cX12_states 93 = .ok (.ior, 1)) ∧ (decode cX12_states 94 = .ok (.iastore, 1)) ∧ (decode cX12_states 95 = .ok (.goto (-87), 3)) ∧ (decode cX12_states 98 = .ok (.iconst 1, 1)) ∧ (decode cX12_states 99 = .ok (.ireturn, 1)) := by decide +kernel
theorem dX12_states_84 : decode cX12_states 84 = .ok (.iaload, 1) := dGR_25_c_843.1
theorem dX12_states_85 : decode cX12_states 85 = .ok (.iconst 1, 1) := dGR_25_c_843.2.1
theorem dX12_states_86 : decode cX12_states 86 = .ok (.aload_n 0, 1) := dGR_25_c_843.2.2.1
theorem dX12_states_87 : decode cX12_states 87 = .ok (.getfield 7, 3) := dGR_25_c_843.2.2.2.1
theorem dX12_states_90 : decode cX12_states 90 = .ok (.iload_n 3, 1) := dGR_25_c_843.2.2.2.2.1
theorem dX12_states_91 : decode cX12_states 91 = .ok (.iaload, 1) := dGR_25_c_843.2.2.2.2.2.1
theorem dX12_states_92 : decode cX12_states 92 = .ok (.ishl, 1) := dGR_25_c_843.2.2.2.2.2.2.1
theorem dX12_states_93 : decode cX12_states 93 = .ok (.ior, 1) := dGR_25_c_843.2.2.2.2.2.2.2.1
theorem dX12_states_94 : decode cX12_states 94 = .ok (.iastore, 1) := dGR_25_c_843.2.2.2.2.2.2.2.2.1
theorem dX12_states_95 : decode cX12_states 95 = .ok (.goto (-87), 3) := dGR_25_c_843.2.2.2.2.2.2.2.2.2.1
theorem dX12_states_98 : decode cX12_states 98 = .ok (.iconst 1, 1) := dGR_25_c_843.2.2.2.2.2.2.2.2.2.2.1
theorem dX12_states_99 : decode cX12_states 99 = .ok (.ireturn, 1) := dGR_25_c_843.2.2.2.2.2.2.2.2.2.2.2
