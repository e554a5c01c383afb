set_option maxRecDepth 100000 in
theorem dGR_20_c_616 : (decode cX1_takeAutomaton 0 = .ok (.aload_n 0, 1)) ∧ (decode cX1_takeAutomaton 1 = .ok (.getfield 12, 3)) ∧ (decode cX1_takeAutomaton 4 = .ok (.getfield 86, 3)) ∧ (decode cX1_takeAutomaton 7 = .ok (.iconst 2, 1)) ∧ (decode cX1_takeAutomaton 8 = .ok (.if_icmp .lt 10, 3)) ∧ (decode cX1_takeAutomaton 11 = .ok (.aload_n 0, 1)) ∧ (decode cX1_takeAutomaton 12 = .ok (.bipush 6, 2)) ∧ (decode cX1_takeAutomaton 14 = .ok (.invokevirtual 89, 3)) ∧ (decode cX1_takeAutomaton 17 = .ok (.ireturn, 1)) ∧ (decode cX1_takeAutomaton 18 = .ok (.aload_n 0, 1)) ∧ (decode cX1_takeAutomaton 19 = .ok (.invokevirtual 57, 3)) ∧ (decode cX1_takeAutomaton 22 = .ok (.ifCond .eq 12, 3)) := by decide +kernel
theorem dX1_takeAutomaton_0 : decode cX1_takeAutomaton 0 = .ok (.aload_n 0, 1) := dGR_20_c_616.1
theorem dX1_takeAutomaton_1 : decode cX1_takeAutomaton 1 = .ok (.getfield 12, 3) := dGR_20_c_616.2.1
theorem dX1_takeAutomaton_4 : decode cX1_takeAutomaton 4 = .ok (.getfield 86, 3) := dGR_20_c_616.2.2.1
theorem dX1_takeAutomaton_7 : decode cX1_takeAutomaton 7 = .ok (.iconst 2, 1) := dGR_20_c_616.2.2.2.1
theorem dX1_takeAutomaton_8 : decode cX1_takeAutomaton 8 = .ok (.if_icmp .lt 10, 3) := dGR_20_c_616.2.2.2.2.1
theorem dX1_takeAutomaton_11 : decode cX1_takeAutomaton 11 = .ok (.aload_n 0, 1) := dGR_20_c_616.2.2.2.2.2.1
theorem dX1_takeAutomaton_12 : decode cX1_takeAutomaton 12 = .ok (.bipush 6, 2) := dGR_20_c_616.2.2.2.2.2.2.1
theorem dX1_takeAutomaton_14 : decode cX1_takeAutomaton 14 = .ok (.invokevirtual 89, 3) := dGR_20_c_616.2.2.2.2.2.2.2.1
theorem dX1_takeAutomaton_17 : decode cX1_takeAutomaton 17 = .ok (.ireturn, 1) := dGR_20_c_616.2.2.2.2.2.2.2.2.1
theorem dX1_takeAutomaton_18 : decode cX1_takeAutomaton 18 = .ok (.aload_n 0, 1) := dGR_20_c_616.2.2.2.2.2.2.2.2.2.1
theorem dX1_takeAutomaton_19 : decode cX1_takeAutomaton 19 = .ok (.invokevirtual 57, 3) := dGR_20_c_616.2.2.2.2.2.2.2.2.2.2.1
theorem dX1_takeAutomaton_22 : decode cX1_takeAutomaton 22 = .ok (.ifCond .eq 12, 3) := dGR_20_c_616.2.2.2.2.2.2.2.2.2.2.2
set_option maxRecDepth 100000 in
theorem dGR_20_c_617 : (decode cX1_takeAutomaton 25 = .ok (.aload_n 0, 1)) ∧ (decode cX1_takeAutomaton 26 = .ok (.iconst 1, 1)) ∧ (decode cX1_takeAutomaton 27 = .ok (.iconst 3, 1)) ∧ (decode cX1_takeAutomaton 28 = .ok (.invokevirtual 123, 3)) ∧ (decode cX1_takeAutomaton 31 = .ok (.ifCond .ne 5, 3)) ∧ (decode cX1_takeAutomaton 34 = .ok (.iconst 0, 1)) ∧ (decode cX1_takeAutomaton 35 = .ok (.ireturn, 1)) ∧ (decode cX1_takeAutomaton 36 = .ok (.aload_n 0, 1)) ∧ (decode cX1_takeAutomaton 37 = .ok (.getfield 127, 3)) ∧ (decode cX1_takeAutomaton 40 = .ok (.istore_n 1, 1)) ∧ (decode cX1_takeAutomaton 41 = .ok (.aload_n 0, 1)) ∧ (decode cX1_takeAutomaton 42 = .ok (.invokevirtual 57, 3)) := by decide +kernel
theorem dX1_takeAutomaton_25 : decode cX1_takeAutomaton 25 = .ok (.aload_n 0, 1) := dGR_20_c_617.1
theorem dX1_takeAutomaton_26 : decode cX1_takeAutomaton 26 = .ok (.iconst 1, 1) := dGR_20_c_617.2.1
theorem dX1_takeAutomaton_27 : decode cX1_takeAutomaton 27 = .ok (.iconst 3, 1) := dGR_20_c_617.2.2.1
theorem dX1_takeAutomaton_28 : decode cX1_takeAutomaton 28 = .ok (.invokevirtual 123, 3) := dGR_20_c_617.2.2.2.1
theorem dX1_takeAutomaton_31 : decode cX1_takeAutomaton 31 = .ok (.ifCond .ne 5, 3) := dGR_20_c_617.2.2.2.2.1
theorem dX1_takeAutomaton_34 : decode cX1_takeAutomaton 34 = .ok (.iconst 0, 1) := dGR_20_c_617.2.2.2.2.2.1
theorem dX1_takeAutomaton_35 : decode cX1_takeAutomaton 35 = .ok (.ireturn, 1) := dGR_20_c_617.2.2.2.2.2.2.1
theorem dX1_takeAutomaton_36 : decode cX1_takeAutomaton 36 = .ok (.aload_n 0, 1) := dGR_20_c_617.2.2.2.2.2.2.2.1
theorem dX1_takeAutomaton_37 : decode cX1_takeAutomaton 37 = .ok (.getfield 127, 3) := dGR_20_c_617.2.2.2.2.2.2.2.2.1
theorem dX1_takeAutomaton_40 : decode cX1_takeAutomaton 40 = .ok (.istore_n 1, 1) := dGR_20_c_617.2.2.2.2.2.2.2.2.2.1
theorem dX1_takeAutomaton_41 : decode cX1_takeAutomaton 41 = .ok (.aload_n 0, 1) := dGR_20_c_617.2.2.2.2.2.2.2.2.2.2.1
theorem dX1_takeAutomaton_42 : decode cX1_takeAutomaton 42 = .ok (.invokevirtual 57, 3) := dGR_20_c_617.2.2.2.2.2.2.2.2.2.2.2
set_option maxRecDepth 100000 in
theorem dGR_20_c_618 : (decode cX1_takeAutomaton 45 = .ok (.ifCond .eq 12, 3)) ∧ (decode cX1_takeAutomaton 48 = .ok (.aload_n 0, 1)) ∧ (decode cX1_takeAutomaton 49 = .ok (.ldc 130, 2)) ∧ (decode cX1_takeAutomaton 51 = .ok (.invokevirtual 132, 3)) ∧ (decode cX1_takeAutomaton 54 = .ok (.ifCond .ne 5, 3)) ∧ (decode cX1_takeAutomaton 57 = .ok (.iconst 0, 1)) ∧ (decode cX1_takeAutomaton 58 = .ok (.ireturn, 1)) ∧ (decode cX1_takeAutomaton 59 = .ok (.aload_n 0, 1)) ∧ (decode cX1_takeAutomaton 60 = .ok (.invokevirtual 57, 3)) ∧ (decode cX1_takeAutomaton 63 = .ok (.ifCond .eq 12, 3)) ∧ (decode cX1_takeAutomaton 66 = .ok (.aload_n 0, 1)) ∧ (decode cX1_takeAutomaton 67 = .ok (.iconst 1, 1)) := by decide +kernel
theorem dX1_takeAutomaton_45 : decode cX1_takeAutomaton 45 = .ok (.ifCond .eq 12, 3) := dGR_20_c_618.1
theorem dX1_takeAutomaton_48 : decode cX1_takeAutomaton 48 = .ok (.aload_n 0, 1) := dGR_20_c_618.2.1
theorem dX1_takeAutomaton_49 : decode cX1_takeAutomaton 49 = .ok (.ldc 130, 2) := dGR_20_c_618.2.2.1
theorem dX1_takeAutomaton_51 : decode cX1_takeAutomaton 51 = .ok (.invokevirtual 132, 3) := dGR_20_c_618.2.2.2.1
theorem dX1_takeAutomaton_54 : decode cX1_takeAutomaton 54 = .ok (.ifCond .ne 5, 3) := dGR_20_c_618.2.2.2.2.1
theorem dX1_takeAutomaton_57 : decode cX1_takeAutomaton 57 = .ok (.iconst 0, 1) := dGR_20_c_618.2.2.2.2.2.1
theorem dX1_takeAutomaton_58 : decode cX1_takeAutomaton 58 = .ok (.ireturn, 1) := dGR_20_c_618.2.2.2.2.2.2.1
theorem dX1_takeAutomaton_59 : decode cX1_takeAutomaton 59 = .ok (.aload_n 0, 1) := dGR_20_c_618.2.2.2.2.2.2.2.1
theorem dX1_takeAutomaton_60 : decode cX1_takeAutomaton 60 = .ok (.invokevirtual 57, 3) := dGR_20_c_618.2.2.2.2.2.2.2.2.1
theorem dX1_takeAutomaton_63 : decode cX1_takeAutomaton 63 = .ok (.ifCond .eq 12, 3) := dGR_20_c_618.2.2.2.2.2.2.2.2.2.1
theorem dX1_takeAutomaton_66 : decode cX1_takeAutomaton 66 = .ok (.aload_n 0, 1) := dGR_20_c_618.2.2.2.2.2.2.2.2.2.2.1
theorem dX1_takeAutomaton_67 : decode cX1_takeAutomaton 67 = .ok (.iconst 1, 1) := dGR_20_c_618.2.2.2.2.2.2.2.2.2.2.2
set_option maxRecDepth 100000 in
theorem dGR_20_c_619 : (decode cX1_takeAutomaton 68 = .ok (.iconst 3, 1)) ∧ (decode cX1_takeAutomaton 69 = .ok (.invokevirtual 123, 3)) ∧ (decode cX1_takeAutomaton 72 = .ok (.ifCond .ne 5, 3)) ∧ (decode cX1_takeAutomaton 75 = .ok (.iconst 0, 1)) ∧ (decode cX1_takeAutomaton 76 = .ok (.ireturn, 1)) ∧ (decode cX1_takeAutomaton 77 = .ok (.aload_n 0, 1)) ∧ (decode cX1_takeAutomaton 78 = .ok (.getfield 12, 3)) ∧ (decode cX1_takeAutomaton 81 = .ok (.dup, 1)) ∧ (decode cX1_takeAutomaton 82 = .ok (.getfield 86, 3)) ∧ (decode cX1_takeAutomaton 85 = .ok (.iconst 1, 1)) ∧ (decode cX1_takeAutomaton 86 = .ok (.iadd, 1)) ∧ (decode cX1_takeAutomaton 87 = .ok (.putfield 86, 3)) := by decide +kernel
theorem dX1_takeAutomaton_68 : decode cX1_takeAutomaton 68 = .ok (.iconst 3, 1) := dGR_20_c_619.1
theorem dX1_takeAutomaton_69 : decode cX1_takeAutomaton 69 = .ok (.invokevirtual 123, 3) := dGR_20_c_619.2.1
theorem dX1_takeAutomaton_72 : decode cX1_takeAutomaton 72 = .ok (.ifCond .ne 5, 3) := dGR_20_c_619.2.2.1
theorem dX1_takeAutomaton_75 : decode cX1_takeAutomaton 75 = .ok (.iconst 0, 1) := dGR_20_c_619.2.2.2.1
theorem dX1_takeAutomaton_76 : decode cX1_takeAutomaton 76 = .ok (.ireturn, 1) := dGR_20_c_619.2.2.2.2.1
theorem dX1_takeAutomaton_77 : decode cX1_takeAutomaton 77 = .ok (.aload_n 0, 1) := dGR_20_c_619.2.2.2.2.2.1
theorem dX1_takeAutomaton_78 : decode cX1_takeAutomaton 78 = .ok (.getfield 12, 3) := dGR_20_c_619.2.2.2.2.2.2.1
theorem dX1_takeAutomaton_81 : decode cX1_takeAutomaton 81 = .ok (.dup, 1) := dGR_20_c_619.2.2.2.2.2.2.2.1
theorem dX1_takeAutomaton_82 : decode cX1_takeAutomaton 82 = .ok (.getfield 86, 3) := dGR_20_c_619.2.2.2.2.2.2.2.2.1
theorem dX1_takeAutomaton_85 : decode cX1_takeAutomaton 85 = .ok (.iconst 1, 1) := dGR_20_c_619.2.2.2.2.2.2.2.2.2.1
theorem dX1_takeAutomaton_86 : decode cX1_takeAutomaton 86 = .ok (.iadd, 1) := dGR_20_c_619.2.2.2.2.2.2.2.2.2.2.1
theorem dX1_takeAutomaton_87 : decode cX1_takeAutomaton 87 = .ok (.putfield 86, 3) := dGR_20_c_619.2.2.2.2.2.2.2.2.2.2.2
set_option maxRecDepth 100000 in
theorem dGR_20_c_620 : (decode cX1_takeAutomaton 90 = .ok (.aload_n 0, 1)) ∧ (decode cX1_takeAutomaton 91 = .ok (.invokevirtual 135, 3)) ∧ (decode cX1_takeAutomaton 94 = .ok (.aload_n 0, 1)) ∧ (decode cX1_takeAutomaton 95 = .ok (.getfield 12, 3)) ∧ (decode cX1_takeAutomaton 98 = .ok (.getfield 139, 3)) ∧ (decode cX1_takeAutomaton 101 = .ok (.iload_n 1, 1)) ∧ (decode cX1_takeAutomaton 102 = .ok (.aload_n 0, 1)) ∧ (decode cX1_takeAutomaton 103 = .ok (.getfield 127, 3)) ∧ (decode cX1_takeAutomaton 106 = .ok (.invokevirtual 142, 3)) ∧ (decode cX1_takeAutomaton 109 = .ok (.aload_n 0, 1)) ∧ (decode cX1_takeAutomaton 110 = .ok (.invokevirtual 57, 3)) ∧ (decode cX1_takeAutomaton 113 = .ok (.ifCond .eq 14, 3)) := by decide +kernel
theorem dX1_takeAutomaton_90 : decode cX1_takeAutomaton 90 = .ok (.aload_n 0, 1) := dGR_20_c_620.1
theorem dX1_takeAutomaton_91 : decode cX1_takeAutomaton 91 = .ok (.invokevirtual 135, 3) := dGR_20_c_620.2.1
theorem dX1_takeAutomaton_94 : decode cX1_takeAutomaton 94 = .ok (.aload_n 0, 1) := dGR_20_c_620.2.2.1
theorem dX1_takeAutomaton_95 : decode cX1_takeAutomaton 95 = .ok (.getfield 12, 3) := dGR_20_c_620.2.2.2.1
theorem dX1_takeAutomaton_98 : decode cX1_takeAutomaton 98 = .ok (.getfield 139, 3) := dGR_20_c_620.2.2.2.2.1
theorem dX1_takeAutomaton_101 : decode cX1_takeAutomaton 101 = .ok (.iload_n 1, 1) := dGR_20_c_620.2.2.2.2.2.1
theorem dX1_takeAutomaton_102 : decode cX1_takeAutomaton 102 = .ok (.aload_n 0, 1) := dGR_20_c_620.2.2.2.2.2.2.1
theorem dX1_takeAutomaton_103 : decode cX1_takeAutomaton 103 = .ok (.getfield 127, 3) := dGR_20_c_620.2.2.2.2.2.2.2.1
theorem dX1_takeAutomaton_106 : decode cX1_takeAutomaton 106 = .ok (.invokevirtual 142, 3) := dGR_20_c_620.2.2.2.2.2.2.2.2.1
theorem dX1_takeAutomaton_109 : decode cX1_takeAutomaton 109 = .ok (.aload_n 0, 1) := dGR_20_c_620.2.2.2.2.2.2.2.2.2.1
theorem dX1_takeAutomaton_110 : decode cX1_takeAutomaton 110 = .ok (.invokevirtual 57, 3) := dGR_20_c_620.2.2.2.2.2.2.2.2.2.2.1
theorem dX1_takeAutomaton_113 : decode cX1_takeAutomaton 113 = .ok (.ifCond .eq 14, 3) := dGR_20_c_620.2.2.2.2.2.2.2.2.2.2.2
set_option maxRecDepth 100000 in
theorem dGR_20_c_621 : (decode cX1_takeAutomaton 116 = .ok (.aload_n 0, 1)) ∧ (decode cX1_takeAutomaton 117 = .ok (.invokevirtual 120, 3)) ∧ (decode cX1_takeAutomaton 120 = .ok (.ifCond .eq 7, 3)) ∧ (decode cX1_takeAutomaton 123 = .ok (.iconst 1, 1)) ∧ (decode cX1_takeAutomaton 124 = .ok (.goto 4, 3)) ∧ (decode cX1_takeAutomaton 127 = .ok (.iconst 0, 1)) ∧ (decode cX1_takeAutomaton 128 = .ok (.ireturn, 1)) := by decide +kernel
theorem dX1_takeAutomaton_116 : decode cX1_takeAutomaton 116 = .ok (.aload_n 0, 1) := dGR_20_c_621.1
theorem dX1_takeAutomaton_117 : decode cX1_takeAutomaton 117 = .ok (.invokevirtual 120, 3) := dGR_20_c_621.2.1
theorem dX1_takeAutomaton_120 : decode cX1_takeAutomaton 120 = .ok (.ifCond .eq 7, 3) := dGR_20_c_621.2.2.1
theorem dX1_takeAutomaton_123 : decode cX1_takeAutomaton 123 = .ok (.iconst 1, 1) := dGR_20_c_621.2.2.2.1
theorem dX1_takeAutomaton_124 : decode cX1_takeAutomaton 124 = .ok (.goto 4, 3) := dGR_20_c_621.2.2.2.2.1
theorem dX1_takeAutomaton_127 : decode cX1_takeAutomaton 127 = .ok (.iconst 0, 1) := dGR_20_c_621.2.2.2.2.2.1
theorem dX1_takeAutomaton_128 : decode cX1_takeAutomaton 128 = .ok (.ireturn, 1) := dGR_20_c_621.2.2.2.2.2.2
set_option maxRecDepth 100000 in
theorem dGR_20_c_622 : (decode cX1_takeStates 0 = .ok (.aload_n 0, 1)) ∧ (decode cX1_takeStates 1 = .ok (.invokevirtual 135, 3)) ∧ (decode cX1_takeStates 4 = .ok (.astore_n 2, 1)) ∧ (decode cX1_takeStates 5 = .ok (.iload_n 1, 1)) ∧ (decode cX1_takeStates 6 = .ok (.ifCond .eq 10, 3)) ∧ (decode cX1_takeStates 9 = .ok (.aload_n 2, 1)) ∧ (decode cX1_takeStates 10 = .ok (.getfield 147, 3)) ∧ (decode cX1_takeStates 13 = .ok (.goto 7, 3)) ∧ (decode cX1_takeStates 16 = .ok (.aload_n 2, 1)) ∧ (decode cX1_takeStates 17 = .ok (.getfield 150, 3)) ∧ (decode cX1_takeStates 20 = .ok (.istore_n 3, 1)) ∧ (decode cX1_takeStates 21 = .ok (.aload_n 0, 1)) := by decide +kernel
theorem dX1_takeStates_0 : decode cX1_takeStates 0 = .ok (.aload_n 0, 1) := dGR_20_c_622.1
theorem dX1_takeStates_1 : decode cX1_takeStates 1 = .ok (.invokevirtual 135, 3) := dGR_20_c_622.2.1
theorem dX1_takeStates_4 : decode cX1_takeStates 4 = .ok (.astore_n 2, 1) := dGR_20_c_622.2.2.1
theorem dX1_takeStates_5 : decode cX1_takeStates 5 = .ok (.iload_n 1, 1) := dGR_20_c_622.2.2.2.1
theorem dX1_takeStates_6 : decode cX1_takeStates 6 = .ok (.ifCond .eq 10, 3) := dGR_20_c_622.2.2.2.2.1
theorem dX1_takeStates_9 : decode cX1_takeStates 9 = .ok (.aload_n 2, 1) := dGR_20_c_622.2.2.2.2.2.1
theorem dX1_takeStates_10 : decode cX1_takeStates 10 = .ok (.getfield 147, 3) := dGR_20_c_622.2.2.2.2.2.2.1
theorem dX1_takeStates_13 : decode cX1_takeStates 13 = .ok (.goto 7, 3) := dGR_20_c_622.2.2.2.2.2.2.2.1
theorem dX1_takeStates_16 : decode cX1_takeStates 16 = .ok (.aload_n 2, 1) := dGR_20_c_622.2.2.2.2.2.2.2.2.1
theorem dX1_takeStates_17 : decode cX1_takeStates 17 = .ok (.getfield 150, 3) := dGR_20_c_622.2.2.2.2.2.2.2.2.2.1
theorem dX1_takeStates_20 : decode cX1_takeStates 20 = .ok (.istore_n 3, 1) := dGR_20_c_622.2.2.2.2.2.2.2.2.2.2.1
theorem dX1_takeStates_21 : decode cX1_takeStates 21 = .ok (.aload_n 0, 1) := dGR_20_c_622.2.2.2.2.2.2.2.2.2.2.2
set_option maxRecDepth 100000 in
theorem dGR_20_c_623 : (decode cX1_takeStates 22 = .ok (.invokevirtual 57, 3)) ∧ (decode cX1_takeStates 25 = .ok (.istore 4, 2)) ∧ (decode cX1_takeStates 27 = .ok (.iconst 0, 1)) ∧ (decode cX1_takeStates 28 = .ok (.istore 5, 2)) ∧ (decode cX1_takeStates 30 = .ok (.iload 5, 2)) ∧ (decode cX1_takeStates 32 = .ok (.aload_n 0, 1)) ∧ (decode cX1_takeStates 33 = .ok (.getfield 45, 3)) ∧ (decode cX1_takeStates 36 = .ok (.if_icmp .ge 70, 3)) ∧ (decode cX1_takeStates 39 = .ok (.iload 4, 2)) ∧ (decode cX1_takeStates 41 = .ok (.ifCond .eq 65, 3)) ∧ (decode cX1_takeStates 44 = .ok (.aload_n 0, 1)) ∧ (decode cX1_takeStates 45 = .ok (.getfield 61, 3)) := by decide +kernel
theorem dX1_takeStates_22 : decode cX1_takeStates 22 = .ok (.invokevirtual 57, 3) := dGR_20_c_623.1
theorem dX1_takeStates_25 : decode cX1_takeStates 25 = .ok (.istore 4, 2) := dGR_20_c_623.2.1
theorem dX1_takeStates_27 : decode cX1_takeStates 27 = .ok (.iconst 0, 1) := dGR_20_c_623.2.2.1
theorem dX1_takeStates_28 : decode cX1_takeStates 28 = .ok (.istore 5, 2) := dGR_20_c_623.2.2.2.1
theorem dX1_takeStates_30 : decode cX1_takeStates 30 = .ok (.iload 5, 2) := dGR_20_c_623.2.2.2.2.1
theorem dX1_takeStates_32 : decode cX1_takeStates 32 = .ok (.aload_n 0, 1) := dGR_20_c_623.2.2.2.2.2.1
theorem dX1_takeStates_33 : decode cX1_takeStates 33 = .ok (.getfield 45, 3) := dGR_20_c_623.2.2.2.2.2.2.1
theorem dX1_takeStates_36 : decode cX1_takeStates 36 = .ok (.if_icmp .ge 70, 3) := dGR_20_c_623.2.2.2.2.2.2.2.1
theorem dX1_takeStates_39 : decode cX1_takeStates 39 = .ok (.iload 4, 2) := dGR_20_c_623.2.2.2.2.2.2.2.2.1
theorem dX1_takeStates_41 : decode cX1_takeStates 41 = .ok (.ifCond .eq 65, 3) := dGR_20_c_623.2.2.2.2.2.2.2.2.2.1
theorem dX1_takeStates_44 : decode cX1_takeStates 44 = .ok (.aload_n 0, 1) := dGR_20_c_623.2.2.2.2.2.2.2.2.2.2.1
theorem dX1_takeStates_45 : decode cX1_takeStates 45 = .ok (.getfield 61, 3) := dGR_20_c_623.2.2.2.2.2.2.2.2.2.2.2
set_option maxRecDepth 100000 in
theorem dGR_20_c_624 : (decode cX1_takeStates 48 = .ok (.iconst 3, 1)) ∧ (decode cX1_takeStates 49 = .ok (.if_icmp .eq 57, 3)) ∧ (decode cX1_takeStates 52 = .ok (.aload_n 0, 1)) ∧ (decode cX1_takeStates 53 = .ok (.iconst 0, 1)) ∧ (decode cX1_takeStates 54 = .ok (.aload_n 2, 1)) ∧ (decode cX1_takeStates 55 = .ok (.getfield 153, 3)) ∧ (decode cX1_takeStates 58 = .ok (.iconst 1, 1)) ∧ (decode cX1_takeStates 59 = .ok (.isub, 1)) ∧ (decode cX1_takeStates 60 = .ok (.invokevirtual 123, 3)) ∧ (decode cX1_takeStates 63 = .ok (.ifCond .ne 5, 3)) ∧ (decode cX1_takeStates 66 = .ok (.iconst 0, 1)) ∧ (decode cX1_takeStates 67 = .ok (.ireturn, 1)) := by decide +kernel
theorem dX1_takeStates_48 : decode cX1_takeStates 48 = .ok (.iconst 3, 1) := dGR_20_c_624.1
theorem dX1_takeStates_49 : decode cX1_takeStates 49 = .ok (.if_icmp .eq 57, 3) := dGR_20_c_624.2.1
theorem dX1_takeStates_52 : decode cX1_takeStates 52 = .ok (.aload_n 0, 1) := dGR_20_c_624.2.2.1
theorem dX1_takeStates_53 : decode cX1_takeStates 53 = .ok (.iconst 0, 1) := dGR_20_c_624.2.2.2.1
theorem dX1_takeStates_54 : decode cX1_takeStates 54 = .ok (.aload_n 2, 1) := dGR_20_c_624.2.2.2.2.1
theorem dX1_takeStates_55 : decode cX1_takeStates 55 = .ok (.getfield 153, 3) := dGR_20_c_624.2.2.2.2.2.1
theorem dX1_takeStates_58 : decode cX1_takeStates 58 = .ok (.iconst 1, 1) := dGR_20_c_624.2.2.2.2.2.2.1
theorem dX1_takeStates_59 : decode cX1_takeStates 59 = .ok (.isub, 1) := dGR_20_c_624.2.2.2.2.2.2.2.1
theorem dX1_takeStates_60 : decode cX1_takeStates 60 = .ok (.invokevirtual 123, 3) := dGR_20_c_624.2.2.2.2.2.2.2.2.1
theorem dX1_takeStates_63 : decode cX1_takeStates 63 = .ok (.ifCond .ne 5, 3) := dGR_20_c_624.2.2.2.2.2.2.2.2.2.1
theorem dX1_takeStates_66 : decode cX1_takeStates 66 = .ok (.iconst 0, 1) := dGR_20_c_624.2.2.2.2.2.2.2.2.2.2.1
theorem dX1_takeStates_67 : decode cX1_takeStates 67 = .ok (.ireturn, 1) := dGR_20_c_624.2.2.2.2.2.2.2.2.2.2.2
set_option maxRecDepth 100000 in
theorem dGR_20_c_625 : (decode cX1_takeStates 68 = .ok (.iload_n 3, 1)) ∧ (decode cX1_takeStates 69 = .ok (.aload_n 0, 1)) ∧ (decode cX1_takeStates 70 = .ok (.getfield 127, 3)) ∧ (decode cX1_takeStates 73 = .ok (.ishr, 1)) ∧ (decode cX1_takeStates 74 = .ok (.iconst 1, 1)) ∧ (decode cX1_takeStates 75 = .ok (.iand, 1)) ∧ (decode cX1_takeStates 76 = .ok (.ifCond .eq 9, 3)) ∧ (decode cX1_takeStates 79 = .ok (.aload_n 0, 1)) ∧ (decode cX1_takeStates 80 = .ok (.iconst 5, 1)) ∧ (decode cX1_takeStates 81 = .ok (.invokevirtual 89, 3)) ∧ (decode cX1_takeStates 84 = .ok (.ireturn, 1)) ∧ (decode cX1_takeStates 85 = .ok (.iload_n 3, 1)) := by decide +kernel
theorem dX1_takeStates_68 : decode cX1_takeStates 68 = .ok (.iload_n 3, 1) := dGR_20_c_625.1
theorem dX1_takeStates_69 : decode cX1_takeStates 69 = .ok (.aload_n 0, 1) := dGR_20_c_625.2.1
theorem dX1_takeStates_70 : decode cX1_takeStates 70 = .ok (.getfield 127, 3) := dGR_20_c_625.2.2.1
theorem dX1_takeStates_73 : decode cX1_takeStates 73 = .ok (.ishr, 1) := dGR_20_c_625.2.2.2.1
theorem dX1_takeStates_74 : decode cX1_takeStates 74 = .ok (.iconst 1, 1) := dGR_20_c_625.2.2.2.2.1
theorem dX1_takeStates_75 : decode cX1_takeStates 75 = .ok (.iand, 1) := dGR_20_c_625.2.2.2.2.2.1
theorem dX1_takeStates_76 : decode cX1_takeStates 76 = .ok (.ifCond .eq 9, 3) := dGR_20_c_625.2.2.2.2.2.2.1
theorem dX1_takeStates_79 : decode cX1_takeStates 79 = .ok (.aload_n 0, 1) := dGR_20_c_625.2.2.2.2.2.2.2.1
theorem dX1_takeStates_80 : decode cX1_takeStates 80 = .ok (.iconst 5, 1) := dGR_20_c_625.2.2.2.2.2.2.2.2.1
theorem dX1_takeStates_81 : decode cX1_takeStates 81 = .ok (.invokevirtual 89, 3) := dGR_20_c_625.2.2.2.2.2.2.2.2.2.1
theorem dX1_takeStates_84 : decode cX1_takeStates 84 = .ok (.ireturn, 1) := dGR_20_c_625.2.2.2.2.2.2.2.2.2.2.1
theorem dX1_takeStates_85 : decode cX1_takeStates 85 = .ok (.iload_n 3, 1) := dGR_20_c_625.2.2.2.2.2.2.2.2.2.2.2
set_option maxRecDepth 100000 in
theorem dGR_20_c_626 : (decode cX1_takeStates 86 = .ok (.iconst 1, 1)) ∧ (decode cX1_takeStates 87 = .ok (.aload_n 0, 1)) ∧ (decode cX1_takeStates 88 = .ok (.getfield 127, 3)) ∧ (decode cX1_takeStates 91 = .ok (.ishl, 1)) ∧ (decode cX1_takeStates 92 = .ok (.ior, 1)) ∧ (decode cX1_takeStates 93 = .ok (.istore_n 3, 1)) ∧ (decode cX1_takeStates 94 = .ok (.aload_n 0, 1)) ∧ (decode cX1_takeStates 95 = .ok (.invokevirtual 57, 3)) ∧ (decode cX1_takeStates 98 = .ok (.istore 4, 2)) ∧ (decode cX1_takeStates 100 = .ok (.iinc 5 1, 3)) ∧ (decode cX1_takeStates 103 = .ok (.goto (-73), 3)) ∧ (decode cX1_takeStates 106 = .ok (.aload_n 2, 1)) := by decide +kernel
theorem dX1_takeStates_86 : decode cX1_takeStates 86 = .ok (.iconst 1, 1) := dGR_20_c_626.1
theorem dX1_takeStates_87 : decode cX1_takeStates 87 = .ok (.aload_n 0, 1) := dGR_20_c_626.2.1
theorem dX1_takeStates_88 : decode cX1_takeStates 88 = .ok (.getfield 127, 3) := dGR_20_c_626.2.2.1
theorem dX1_takeStates_91 : decode cX1_takeStates 91 = .ok (.ishl, 1) := dGR_20_c_626.2.2.2.1
theorem dX1_takeStates_92 : decode cX1_takeStates 92 = .ok (.ior, 1) := dGR_20_c_626.2.2.2.2.1
theorem dX1_takeStates_93 : decode cX1_takeStates 93 = .ok (.istore_n 3, 1) := dGR_20_c_626.2.2.2.2.2.1
theorem dX1_takeStates_94 : decode cX1_takeStates 94 = .ok (.aload_n 0, 1) := dGR_20_c_626.2.2.2.2.2.2.1
theorem dX1_takeStates_95 : decode cX1_takeStates 95 = .ok (.invokevirtual 57, 3) := dGR_20_c_626.2.2.2.2.2.2.2.1
theorem dX1_takeStates_98 : decode cX1_takeStates 98 = .ok (.istore 4, 2) := dGR_20_c_626.2.2.2.2.2.2.2.2.1
theorem dX1_takeStates_100 : decode cX1_takeStates 100 = .ok (.iinc 5 1, 3) := dGR_20_c_626.2.2.2.2.2.2.2.2.2.1
theorem dX1_takeStates_103 : decode cX1_takeStates 103 = .ok (.goto (-73), 3) := dGR_20_c_626.2.2.2.2.2.2.2.2.2.2.1
theorem dX1_takeStates_106 : decode cX1_takeStates 106 = .ok (.aload_n 2, 1) := dGR_20_c_626.2.2.2.2.2.2.2.2.2.2.2
set_option maxRecDepth 100000 in
theorem dGR_20_c_627 : (decode cX1_takeStates 107 = .ok (.iload_n 1, 1)) ∧ (decode cX1_takeStates 108 = .ok (.ifCond .eq 7, 3)) ∧ (decode cX1_takeStates 111 = .ok (.iload_n 3, 1)) ∧ (decode cX1_takeStates 112 = .ok (.goto 7, 3)) ∧ (decode cX1_takeStates 115 = .ok (.aload_n 2, 1)) ∧ (decode cX1_takeStates 116 = .ok (.getfield 147, 3)) ∧ (decode cX1_takeStates 119 = .ok (.putfield 147, 3)) ∧ (decode cX1_takeStates 122 = .ok (.aload_n 2, 1)) ∧ (decode cX1_takeStates 123 = .ok (.iload_n 1, 1)) ∧ (decode cX1_takeStates 124 = .ok (.ifCond .eq 10, 3)) ∧ (decode cX1_takeStates 127 = .ok (.aload_n 2, 1)) ∧ (decode cX1_takeStates 128 = .ok (.getfield 150, 3)) := by decide +kernel
theorem dX1_takeStates_107 : decode cX1_takeStates 107 = .ok (.iload_n 1, 1) := dGR_20_c_627.1
theorem dX1_takeStates_108 : decode cX1_takeStates 108 = .ok (.ifCond .eq 7, 3) := dGR_20_c_627.2.1
theorem dX1_takeStates_111 : decode cX1_takeStates 111 = .ok (.iload_n 3, 1) := dGR_20_c_627.2.2.1
theorem dX1_takeStates_112 : decode cX1_takeStates 112 = .ok (.goto 7, 3) := dGR_20_c_627.2.2.2.1
theorem dX1_takeStates_115 : decode cX1_takeStates 115 = .ok (.aload_n 2, 1) := dGR_20_c_627.2.2.2.2.1
theorem dX1_takeStates_116 : decode cX1_takeStates 116 = .ok (.getfield 147, 3) := dGR_20_c_627.2.2.2.2.2.1
theorem dX1_takeStates_119 : decode cX1_takeStates 119 = .ok (.putfield 147, 3) := dGR_20_c_627.2.2.2.2.2.2.1
theorem dX1_takeStates_122 : decode cX1_takeStates 122 = .ok (.aload_n 2, 1) := dGR_20_c_627.2.2.2.2.2.2.2.1
theorem dX1_takeStates_123 : decode cX1_takeStates 123 = .ok (.iload_n 1, 1) := dGR_20_c_627.2.2.2.2.2.2.2.2.1
theorem dX1_takeStates_124 : decode cX1_takeStates 124 = .ok (.ifCond .eq 10, 3) := dGR_20_c_627.2.2.2.2.2.2.2.2.2.1
theorem dX1_takeStates_127 : decode cX1_takeStates 127 = .ok (.aload_n 2, 1) := dGR_20_c_627.2.2.2.2.2.2.2.2.2.2.1
theorem dX1_takeStates_128 : decode cX1_takeStates 128 = .ok (.getfield 150, 3) := dGR_20_c_627.2.2.2.2.2.2.2.2.2.2.2
set_option maxRecDepth 100000 in
theorem dGR_20_c_628 : (decode cX1_takeStates 131 = .ok (.goto 4, 3)) ∧ (decode cX1_takeStates 134 = .ok (.iload_n 3, 1)) ∧ (decode cX1_takeStates 135 = .ok (.putfield 150, 3)) ∧ (decode cX1_takeStates 138 = .ok (.iload 4, 2)) ∧ (decode cX1_takeStates 140 = .ok (.ireturn, 1)) := by decide +kernel
theorem dX1_takeStates_131 : decode cX1_takeStates 131 = .ok (.goto 4, 3) := dGR_20_c_628.1
theorem dX1_takeStates_134 : decode cX1_takeStates 134 = .ok (.iload_n 3, 1) := dGR_20_c_628.2.1
theorem dX1_takeStates_135 : decode cX1_takeStates 135 = .ok (.putfield 150, 3) := dGR_20_c_628.2.2.1
theorem dX1_takeStates_138 : decode cX1_takeStates 138 = .ok (.iload 4, 2) := dGR_20_c_628.2.2.2.1
theorem dX1_takeStates_140 : decode cX1_takeStates 140 = .ok (.ireturn, 1) := dGR_20_c_628.2.2.2.2
set_option maxRecDepth 100000 in
theorem dGR_20_c_629 : (decode cX1_takeSymbol 0 = .ok (.iload_n 1, 1)) ∧ (decode cX1_takeSymbol 1 = .ok (.iconst 2, 1)) ∧ (decode cX1_takeSymbol 2 = .ok (.if_icmp .ne 10, 3)) ∧ (decode cX1_takeSymbol 5 = .ok (.aload_n 0, 1)) ∧ (decode cX1_takeSymbol 6 = .ok (.iconst (-1), 1)) ∧ (decode cX1_takeSymbol 7 = .ok (.putfield 127, 3)) ∧ (decode cX1_takeSymbol 10 = .ok (.iconst 1, 1)) ∧ (decode cX1_takeSymbol 11 = .ok (.ireturn, 1)) ∧ (decode cX1_takeSymbol 12 = .ok (.iconst (-1), 1)) ∧ (decode cX1_takeSymbol 13 = .ok (.istore_n 2, 1)) ∧ (decode cX1_takeSymbol 14 = .ok (.iload_n 1, 1)) ∧ (decode cX1_takeSymbol 15 = .ok (.ifCond .eq 12, 3)) := by decide +kernel
theorem dX1_takeSymbol_0 : decode cX1_takeSymbol 0 = .ok (.iload_n 1, 1) := dGR_20_c_629.1
theorem dX1_takeSymbol_1 : decode cX1_takeSymbol 1 = .ok (.iconst 2, 1) := dGR_20_c_629.2.1
theorem dX1_takeSymbol_2 : decode cX1_takeSymbol 2 = .ok (.if_icmp .ne 10, 3) := dGR_20_c_629.2.2.1
theorem dX1_takeSymbol_5 : decode cX1_takeSymbol 5 = .ok (.aload_n 0, 1) := dGR_20_c_629.2.2.2.1
theorem dX1_takeSymbol_6 : decode cX1_takeSymbol 6 = .ok (.iconst (-1), 1) := dGR_20_c_629.2.2.2.2.1
theorem dX1_takeSymbol_7 : decode cX1_takeSymbol 7 = .ok (.putfield 127, 3) := dGR_20_c_629.2.2.2.2.2.1
theorem dX1_takeSymbol_10 : decode cX1_takeSymbol 10 = .ok (.iconst 1, 1) := dGR_20_c_629.2.2.2.2.2.2.1
theorem dX1_takeSymbol_11 : decode cX1_takeSymbol 11 = .ok (.ireturn, 1) := dGR_20_c_629.2.2.2.2.2.2.2.1
theorem dX1_takeSymbol_12 : decode cX1_takeSymbol 12 = .ok (.iconst (-1), 1) := dGR_20_c_629.2.2.2.2.2.2.2.2.1
theorem dX1_takeSymbol_13 : decode cX1_takeSymbol 13 = .ok (.istore_n 2, 1) := dGR_20_c_629.2.2.2.2.2.2.2.2.2.1
theorem dX1_takeSymbol_14 : decode cX1_takeSymbol 14 = .ok (.iload_n 1, 1) := dGR_20_c_629.2.2.2.2.2.2.2.2.2.2.1
theorem dX1_takeSymbol_15 : decode cX1_takeSymbol 15 = .ok (.ifCond .eq 12, 3) := dGR_20_c_629.2.2.2.2.2.2.2.2.2.2.2
set_option maxRecDepth 100000 in
theorem dGR_20_c_630 : (decode cX1_takeSymbol 18 = .ok (.aload_n 0, 1)) ∧ (decode cX1_takeSymbol 19 = .ok (.ldc 173, 2)) ∧ (decode cX1_takeSymbol 21 = .ok (.invokevirtual 69, 3)) ∧ (decode cX1_takeSymbol 24 = .ok (.ifCond .ne 54, 3)) ∧ (decode cX1_takeSymbol 27 = .ok (.aload_n 0, 1)) ∧ (decode cX1_takeSymbol 28 = .ok (.iload_n 1, 1)) ∧ (decode cX1_takeSymbol 29 = .ok (.ifCond .ne 8, 3)) ∧ (decode cX1_takeSymbol 32 = .ok (.ldc 175, 2)) ∧ (decode cX1_takeSymbol 34 = .ok (.goto 5, 3)) ∧ (decode cX1_takeSymbol 37 = .ok (.ldc 177, 2)) ∧ (decode cX1_takeSymbol 39 = .ok (.invokevirtual 132, 3)) ∧ (decode cX1_takeSymbol 42 = .ok (.ifCond .ne 5, 3)) := by decide +kernel
theorem dX1_takeSymbol_18 : decode cX1_takeSymbol 18 = .ok (.aload_n 0, 1) := dGR_20_c_630.1
theorem dX1_takeSymbol_19 : decode cX1_takeSymbol 19 = .ok (.ldc 173, 2) := dGR_20_c_630.2.1
theorem dX1_takeSymbol_21 : decode cX1_takeSymbol 21 = .ok (.invokevirtual 69, 3) := dGR_20_c_630.2.2.1
theorem dX1_takeSymbol_24 : decode cX1_takeSymbol 24 = .ok (.ifCond .ne 54, 3) := dGR_20_c_630.2.2.2.1
theorem dX1_takeSymbol_27 : decode cX1_takeSymbol 27 = .ok (.aload_n 0, 1) := dGR_20_c_630.2.2.2.2.1
theorem dX1_takeSymbol_28 : decode cX1_takeSymbol 28 = .ok (.iload_n 1, 1) := dGR_20_c_630.2.2.2.2.2.1
theorem dX1_takeSymbol_29 : decode cX1_takeSymbol 29 = .ok (.ifCond .ne 8, 3) := dGR_20_c_630.2.2.2.2.2.2.1
theorem dX1_takeSymbol_32 : decode cX1_takeSymbol 32 = .ok (.ldc 175, 2) := dGR_20_c_630.2.2.2.2.2.2.2.1
theorem dX1_takeSymbol_34 : decode cX1_takeSymbol 34 = .ok (.goto 5, 3) := dGR_20_c_630.2.2.2.2.2.2.2.2.1
theorem dX1_takeSymbol_37 : decode cX1_takeSymbol 37 = .ok (.ldc 177, 2) := dGR_20_c_630.2.2.2.2.2.2.2.2.2.1
theorem dX1_takeSymbol_39 : decode cX1_takeSymbol 39 = .ok (.invokevirtual 132, 3) := dGR_20_c_630.2.2.2.2.2.2.2.2.2.2.1
theorem dX1_takeSymbol_42 : decode cX1_takeSymbol 42 = .ok (.ifCond .ne 5, 3) := dGR_20_c_630.2.2.2.2.2.2.2.2.2.2.2
set_option maxRecDepth 100000 in
theorem dGR_20_c_631 : (decode cX1_takeSymbol 45 = .ok (.iconst 0, 1)) ∧ (decode cX1_takeSymbol 46 = .ok (.ireturn, 1)) ∧ (decode cX1_takeSymbol 47 = .ok (.aload_n 0, 1)) ∧ (decode cX1_takeSymbol 48 = .ok (.invokevirtual 57, 3)) ∧ (decode cX1_takeSymbol 51 = .ok (.ifCond .eq 20, 3)) ∧ (decode cX1_takeSymbol 54 = .ok (.aload_n 0, 1)) ∧ (decode cX1_takeSymbol 55 = .ok (.iconst 0, 1)) ∧ (decode cX1_takeSymbol 56 = .ok (.aload_n 0, 1)) ∧ (decode cX1_takeSymbol 57 = .ok (.invokevirtual 135, 3)) ∧ (decode cX1_takeSymbol 60 = .ok (.getfield 179, 3)) ∧ (decode cX1_takeSymbol 63 = .ok (.iconst 1, 1)) ∧ (decode cX1_takeSymbol 64 = .ok (.isub, 1)) := by decide +kernel
theorem dX1_takeSymbol_45 : decode cX1_takeSymbol 45 = .ok (.iconst 0, 1) := dGR_20_c_631.1
theorem dX1_takeSymbol_46 : decode cX1_takeSymbol 46 = .ok (.ireturn, 1) := dGR_20_c_631.2.1
theorem dX1_takeSymbol_47 : decode cX1_takeSymbol 47 = .ok (.aload_n 0, 1) := dGR_20_c_631.2.2.1
theorem dX1_takeSymbol_48 : decode cX1_takeSymbol 48 = .ok (.invokevirtual 57, 3) := dGR_20_c_631.2.2.2.1
theorem dX1_takeSymbol_51 : decode cX1_takeSymbol 51 = .ok (.ifCond .eq 20, 3) := dGR_20_c_631.2.2.2.2.1
theorem dX1_takeSymbol_54 : decode cX1_takeSymbol 54 = .ok (.aload_n 0, 1) := dGR_20_c_631.2.2.2.2.2.1
theorem dX1_takeSymbol_55 : decode cX1_takeSymbol 55 = .ok (.iconst 0, 1) := dGR_20_c_631.2.2.2.2.2.2.1
theorem dX1_takeSymbol_56 : decode cX1_takeSymbol 56 = .ok (.aload_n 0, 1) := dGR_20_c_631.2.2.2.2.2.2.2.1
theorem dX1_takeSymbol_57 : decode cX1_takeSymbol 57 = .ok (.invokevirtual 135, 3) := dGR_20_c_631.2.2.2.2.2.2.2.2.1
theorem dX1_takeSymbol_60 : decode cX1_takeSymbol 60 = .ok (.getfield 179, 3) := dGR_20_c_631.2.2.2.2.2.2.2.2.2.1
theorem dX1_takeSymbol_63 : decode cX1_takeSymbol 63 = .ok (.iconst 1, 1) := dGR_20_c_631.2.2.2.2.2.2.2.2.2.2.1
theorem dX1_takeSymbol_64 : decode cX1_takeSymbol 64 = .ok (.isub, 1) := dGR_20_c_631.2.2.2.2.2.2.2.2.2.2.2
set_option maxRecDepth 100000 in
theorem dGR_20_c_632 : (decode cX1_takeSymbol 65 = .ok (.invokevirtual 123, 3)) ∧ (decode cX1_takeSymbol 68 = .ok (.ifCond .ne 5, 3)) ∧ (decode cX1_takeSymbol 71 = .ok (.iconst 0, 1)) ∧ (decode cX1_takeSymbol 72 = .ok (.ireturn, 1)) ∧ (decode cX1_takeSymbol 73 = .ok (.aload_n 0, 1)) ∧ (decode cX1_takeSymbol 74 = .ok (.getfield 127, 3)) ∧ (decode cX1_takeSymbol 77 = .ok (.istore_n 2, 1)) ∧ (decode cX1_takeSymbol 78 = .ok (.aload_n 0, 1)) ∧ (decode cX1_takeSymbol 79 = .ok (.invokevirtual 57, 3)) ∧ (decode cX1_takeSymbol 82 = .ok (.istore_n 3, 1)) ∧ (decode cX1_takeSymbol 83 = .ok (.aload_n 0, 1)) ∧ (decode cX1_takeSymbol 84 = .ok (.iload_n 2, 1)) := by decide +kernel
theorem dX1_takeSymbol_65 : decode cX1_takeSymbol 65 = .ok (.invokevirtual 123, 3) := dGR_20_c_632.1
theorem dX1_takeSymbol_68 : decode cX1_takeSymbol 68 = .ok (.ifCond .ne 5, 3) := dGR_20_c_632.2.1
theorem dX1_takeSymbol_71 : decode cX1_takeSymbol 71 = .ok (.iconst 0, 1) := dGR_20_c_632.2.2.1
theorem dX1_takeSymbol_72 : decode cX1_takeSymbol 72 = .ok (.ireturn, 1) := dGR_20_c_632.2.2.2.1
theorem dX1_takeSymbol_73 : decode cX1_takeSymbol 73 = .ok (.aload_n 0, 1) := dGR_20_c_632.2.2.2.2.1
theorem dX1_takeSymbol_74 : decode cX1_takeSymbol 74 = .ok (.getfield 127, 3) := dGR_20_c_632.2.2.2.2.2.1
theorem dX1_takeSymbol_77 : decode cX1_takeSymbol 77 = .ok (.istore_n 2, 1) := dGR_20_c_632.2.2.2.2.2.2.1
theorem dX1_takeSymbol_78 : decode cX1_takeSymbol 78 = .ok (.aload_n 0, 1) := dGR_20_c_632.2.2.2.2.2.2.2.1
theorem dX1_takeSymbol_79 : decode cX1_takeSymbol 79 = .ok (.invokevirtual 57, 3) := dGR_20_c_632.2.2.2.2.2.2.2.2.1
theorem dX1_takeSymbol_82 : decode cX1_takeSymbol 82 = .ok (.istore_n 3, 1) := dGR_20_c_632.2.2.2.2.2.2.2.2.2.1
theorem dX1_takeSymbol_83 : decode cX1_takeSymbol 83 = .ok (.aload_n 0, 1) := dGR_20_c_632.2.2.2.2.2.2.2.2.2.2.1
theorem dX1_takeSymbol_84 : decode cX1_takeSymbol 84 = .ok (.iload_n 2, 1) := dGR_20_c_632.2.2.2.2.2.2.2.2.2.2.2
set_option maxRecDepth 100000 in
theorem dGR_20_c_633 : (decode cX1_takeSymbol 85 = .ok (.putfield 127, 3)) ∧ (decode cX1_takeSymbol 88 = .ok (.iload_n 3, 1)) ∧ (decode cX1_takeSymbol 89 = .ok (.ireturn, 1)) := by decide +kernel
theorem dX1_takeSymbol_85 : decode cX1_takeSymbol 85 = .ok (.putfield 127, 3) := dGR_20_c_633.1
theorem dX1_takeSymbol_88 : decode cX1_takeSymbol 88 = .ok (.iload_n 3, 1) := dGR_20_c_633.2.1
theorem dX1_takeSymbol_89 : decode cX1_takeSymbol 89 = .ok (.ireturn, 1) := dGR_20_c_633.2.2
set_option maxRecDepth 100000 in
theorem dGR_20_c_634 : (decode cX1_takeRule 0 = .ok (.aload_n 0, 1)) ∧ (decode cX1_takeRule 1 = .ok (.invokevirtual 135, 3)) ∧ (decode cX1_takeRule 4 = .ok (.astore_n 1, 1)) ∧ (decode cX1_takeRule 5 = .ok (.aload_n 1, 1)) ∧ (decode cX1_takeRule 6 = .ok (.getfield 156, 3)) ∧ (decode cX1_takeRule 9 = .ok (.bipush 20, 2)) ∧ (decode cX1_takeRule 11 = .ok (.if_icmp .lt 10, 3)) ∧ (decode cX1_takeRule 14 = .ok (.aload_n 0, 1)) ∧ (decode cX1_takeRule 15 = .ok (.bipush 6, 2)) ∧ (decode cX1_takeRule 17 = .ok (.invokevirtual 89, 3)) ∧ (decode cX1_takeRule 20 = .ok (.ireturn, 1)) ∧ (decode cX1_takeRule 21 = .ok (.aload_n 0, 1)) := by decide +kernel
theorem dX1_takeRule_0 : decode cX1_takeRule 0 = .ok (.aload_n 0, 1) := dGR_20_c_634.1
theorem dX1_takeRule_1 : decode cX1_takeRule 1 = .ok (.invokevirtual 135, 3) := dGR_20_c_634.2.1
theorem dX1_takeRule_4 : decode cX1_takeRule 4 = .ok (.astore_n 1, 1) := dGR_20_c_634.2.2.1
theorem dX1_takeRule_5 : decode cX1_takeRule 5 = .ok (.aload_n 1, 1) := dGR_20_c_634.2.2.2.1
theorem dX1_takeRule_6 : decode cX1_takeRule 6 = .ok (.getfield 156, 3) := dGR_20_c_634.2.2.2.2.1
theorem dX1_takeRule_9 : decode cX1_takeRule 9 = .ok (.bipush 20, 2) := dGR_20_c_634.2.2.2.2.2.1
theorem dX1_takeRule_11 : decode cX1_takeRule 11 = .ok (.if_icmp .lt 10, 3) := dGR_20_c_634.2.2.2.2.2.2.1
theorem dX1_takeRule_14 : decode cX1_takeRule 14 = .ok (.aload_n 0, 1) := dGR_20_c_634.2.2.2.2.2.2.2.1
theorem dX1_takeRule_15 : decode cX1_takeRule 15 = .ok (.bipush 6, 2) := dGR_20_c_634.2.2.2.2.2.2.2.2.1
theorem dX1_takeRule_17 : decode cX1_takeRule 17 = .ok (.invokevirtual 89, 3) := dGR_20_c_634.2.2.2.2.2.2.2.2.2.1
theorem dX1_takeRule_20 : decode cX1_takeRule 20 = .ok (.ireturn, 1) := dGR_20_c_634.2.2.2.2.2.2.2.2.2.2.1
theorem dX1_takeRule_21 : decode cX1_takeRule 21 = .ok (.aload_n 0, 1) := dGR_20_c_634.2.2.2.2.2.2.2.2.2.2.2
set_option maxRecDepth 100000 in
theorem dGR_20_c_635 : (decode cX1_takeRule 22 = .ok (.invokevirtual 57, 3)) ∧ (decode cX1_takeRule 25 = .ok (.ifCond .eq 10, 3)) ∧ (decode cX1_takeRule 28 = .ok (.aload_n 0, 1)) ∧ (decode cX1_takeRule 29 = .ok (.invokevirtual 109, 3)) ∧ (decode cX1_takeRule 32 = .ok (.ifCond .ne 5, 3)) ∧ (decode cX1_takeRule 35 = .ok (.iconst 0, 1)) ∧ (decode cX1_takeRule 36 = .ok (.ireturn, 1)) ∧ (decode cX1_takeRule 37 = .ok (.aload_n 0, 1)) ∧ (decode cX1_takeRule 38 = .ok (.invokevirtual 112, 3)) ∧ (decode cX1_takeRule 41 = .ok (.istore_n 2, 1)) ∧ (decode cX1_takeRule 42 = .ok (.iload_n 2, 1)) ∧ (decode cX1_takeRule 43 = .ok (.iconst (-1), 1)) := by decide +kernel
theorem dX1_takeRule_22 : decode cX1_takeRule 22 = .ok (.invokevirtual 57, 3) := dGR_20_c_635.1
theorem dX1_takeRule_25 : decode cX1_takeRule 25 = .ok (.ifCond .eq 10, 3) := dGR_20_c_635.2.1
theorem dX1_takeRule_28 : decode cX1_takeRule 28 = .ok (.aload_n 0, 1) := dGR_20_c_635.2.2.1
theorem dX1_takeRule_29 : decode cX1_takeRule 29 = .ok (.invokevirtual 109, 3) := dGR_20_c_635.2.2.2.1
theorem dX1_takeRule_32 : decode cX1_takeRule 32 = .ok (.ifCond .ne 5, 3) := dGR_20_c_635.2.2.2.2.1
theorem dX1_takeRule_35 : decode cX1_takeRule 35 = .ok (.iconst 0, 1) := dGR_20_c_635.2.2.2.2.2.1
theorem dX1_takeRule_36 : decode cX1_takeRule 36 = .ok (.ireturn, 1) := dGR_20_c_635.2.2.2.2.2.2.1
theorem dX1_takeRule_37 : decode cX1_takeRule 37 = .ok (.aload_n 0, 1) := dGR_20_c_635.2.2.2.2.2.2.2.1
theorem dX1_takeRule_38 : decode cX1_takeRule 38 = .ok (.invokevirtual 112, 3) := dGR_20_c_635.2.2.2.2.2.2.2.2.1
theorem dX1_takeRule_41 : decode cX1_takeRule 41 = .ok (.istore_n 2, 1) := dGR_20_c_635.2.2.2.2.2.2.2.2.2.1
theorem dX1_takeRule_42 : decode cX1_takeRule 42 = .ok (.iload_n 2, 1) := dGR_20_c_635.2.2.2.2.2.2.2.2.2.2.1
theorem dX1_takeRule_43 : decode cX1_takeRule 43 = .ok (.iconst (-1), 1) := dGR_20_c_635.2.2.2.2.2.2.2.2.2.2.2
set_option maxRecDepth 100000 in
theorem dGR_20_c_636 : (decode cX1_takeRule 44 = .ok (.if_icmp .ne 9, 3)) ∧ (decode cX1_takeRule 47 = .ok (.aload_n 0, 1)) ∧ (decode cX1_takeRule 48 = .ok (.iconst 3, 1)) ∧ (decode cX1_takeRule 49 = .ok (.invokevirtual 89, 3)) ∧ (decode cX1_takeRule 52 = .ok (.ireturn, 1)) ∧ (decode cX1_takeRule 53 = .ok (.aload_n 0, 1)) ∧ (decode cX1_takeRule 54 = .ok (.invokevirtual 57, 3)) ∧ (decode cX1_takeRule 57 = .ok (.ifCond .eq 17, 3)) ∧ (decode cX1_takeRule 60 = .ok (.aload_n 0, 1)) ∧ (decode cX1_takeRule 61 = .ok (.iconst 0, 1)) ∧ (decode cX1_takeRule 62 = .ok (.aload_n 1, 1)) ∧ (decode cX1_takeRule 63 = .ok (.getfield 153, 3)) := by decide +kernel
theorem dX1_takeRule_44 : decode cX1_takeRule 44 = .ok (.if_icmp .ne 9, 3) := dGR_20_c_636.1
theorem dX1_takeRule_47 : decode cX1_takeRule 47 = .ok (.aload_n 0, 1) := dGR_20_c_636.2.1
theorem dX1_takeRule_48 : decode cX1_takeRule 48 = .ok (.iconst 3, 1) := dGR_20_c_636.2.2.1
theorem dX1_takeRule_49 : decode cX1_takeRule 49 = .ok (.invokevirtual 89, 3) := dGR_20_c_636.2.2.2.1
theorem dX1_takeRule_52 : decode cX1_takeRule 52 = .ok (.ireturn, 1) := dGR_20_c_636.2.2.2.2.1
theorem dX1_takeRule_53 : decode cX1_takeRule 53 = .ok (.aload_n 0, 1) := dGR_20_c_636.2.2.2.2.2.1
theorem dX1_takeRule_54 : decode cX1_takeRule 54 = .ok (.invokevirtual 57, 3) := dGR_20_c_636.2.2.2.2.2.2.1
theorem dX1_takeRule_57 : decode cX1_takeRule 57 = .ok (.ifCond .eq 17, 3) := dGR_20_c_636.2.2.2.2.2.2.2.1
theorem dX1_takeRule_60 : decode cX1_takeRule 60 = .ok (.aload_n 0, 1) := dGR_20_c_636.2.2.2.2.2.2.2.2.1
theorem dX1_takeRule_61 : decode cX1_takeRule 61 = .ok (.iconst 0, 1) := dGR_20_c_636.2.2.2.2.2.2.2.2.2.1
theorem dX1_takeRule_62 : decode cX1_takeRule 62 = .ok (.aload_n 1, 1) := dGR_20_c_636.2.2.2.2.2.2.2.2.2.2.1
theorem dX1_takeRule_63 : decode cX1_takeRule 63 = .ok (.getfield 153, 3) := dGR_20_c_636.2.2.2.2.2.2.2.2.2.2.2
set_option maxRecDepth 100000 in
theorem dGR_20_c_637 : (decode cX1_takeRule 66 = .ok (.iconst 1, 1)) ∧ (decode cX1_takeRule 67 = .ok (.isub, 1)) ∧ (decode cX1_takeRule 68 = .ok (.invokevirtual 123, 3)) ∧ (decode cX1_takeRule 71 = .ok (.ifCond .ne 5, 3)) ∧ (decode cX1_takeRule 74 = .ok (.iconst 0, 1)) ∧ (decode cX1_takeRule 75 = .ok (.ireturn, 1)) ∧ (decode cX1_takeRule 76 = .ok (.aload_n 0, 1)) ∧ (decode cX1_takeRule 77 = .ok (.getfield 127, 3)) ∧ (decode cX1_takeRule 80 = .ok (.istore_n 3, 1)) ∧ (decode cX1_takeRule 81 = .ok (.aload_n 0, 1)) ∧ (decode cX1_takeRule 82 = .ok (.invokevirtual 57, 3)) ∧ (decode cX1_takeRule 85 = .ok (.ifCond .eq 17, 3)) := by decide +kernel
theorem dX1_takeRule_66 : decode cX1_takeRule 66 = .ok (.iconst 1, 1) := dGR_20_c_637.1
theorem dX1_takeRule_67 : decode cX1_takeRule 67 = .ok (.isub, 1) := dGR_20_c_637.2.1
theorem dX1_takeRule_68 : decode cX1_takeRule 68 = .ok (.invokevirtual 123, 3) := dGR_20_c_637.2.2.1
theorem dX1_takeRule_71 : decode cX1_takeRule 71 = .ok (.ifCond .ne 5, 3) := dGR_20_c_637.2.2.2.1
theorem dX1_takeRule_74 : decode cX1_takeRule 74 = .ok (.iconst 0, 1) := dGR_20_c_637.2.2.2.2.1
theorem dX1_takeRule_75 : decode cX1_takeRule 75 = .ok (.ireturn, 1) := dGR_20_c_637.2.2.2.2.2.1
theorem dX1_takeRule_76 : decode cX1_takeRule 76 = .ok (.aload_n 0, 1) := dGR_20_c_637.2.2.2.2.2.2.1
theorem dX1_takeRule_77 : decode cX1_takeRule 77 = .ok (.getfield 127, 3) := dGR_20_c_637.2.2.2.2.2.2.2.1
theorem dX1_takeRule_80 : decode cX1_takeRule 80 = .ok (.istore_n 3, 1) := dGR_20_c_637.2.2.2.2.2.2.2.2.1
theorem dX1_takeRule_81 : decode cX1_takeRule 81 = .ok (.aload_n 0, 1) := dGR_20_c_637.2.2.2.2.2.2.2.2.2.1
theorem dX1_takeRule_82 : decode cX1_takeRule 82 = .ok (.invokevirtual 57, 3) := dGR_20_c_637.2.2.2.2.2.2.2.2.2.2.1
theorem dX1_takeRule_85 : decode cX1_takeRule 85 = .ok (.ifCond .eq 17, 3) := dGR_20_c_637.2.2.2.2.2.2.2.2.2.2.2
set_option maxRecDepth 100000 in
theorem dGR_20_c_638 : (decode cX1_takeRule 88 = .ok (.aload_n 0, 1)) ∧ (decode cX1_takeRule 89 = .ok (.iconst 0, 1)) ∧ (decode cX1_takeRule 90 = .ok (.aload_n 1, 1)) ∧ (decode cX1_takeRule 91 = .ok (.getfield 153, 3)) ∧ (decode cX1_takeRule 94 = .ok (.iconst 1, 1)) ∧ (decode cX1_takeRule 95 = .ok (.isub, 1)) ∧ (decode cX1_takeRule 96 = .ok (.invokevirtual 123, 3)) ∧ (decode cX1_takeRule 99 = .ok (.ifCond .ne 5, 3)) ∧ (decode cX1_takeRule 102 = .ok (.iconst 0, 1)) ∧ (decode cX1_takeRule 103 = .ok (.ireturn, 1)) ∧ (decode cX1_takeRule 104 = .ok (.aload_n 0, 1)) ∧ (decode cX1_takeRule 105 = .ok (.getfield 127, 3)) := by decide +kernel
theorem dX1_takeRule_88 : decode cX1_takeRule 88 = .ok (.aload_n 0, 1) := dGR_20_c_638.1
theorem dX1_takeRule_89 : decode cX1_takeRule 89 = .ok (.iconst 0, 1) := dGR_20_c_638.2.1
theorem dX1_takeRule_90 : decode cX1_takeRule 90 = .ok (.aload_n 1, 1) := dGR_20_c_638.2.2.1
theorem dX1_takeRule_91 : decode cX1_takeRule 91 = .ok (.getfield 153, 3) := dGR_20_c_638.2.2.2.1
theorem dX1_takeRule_94 : decode cX1_takeRule 94 = .ok (.iconst 1, 1) := dGR_20_c_638.2.2.2.2.1
theorem dX1_takeRule_95 : decode cX1_takeRule 95 = .ok (.isub, 1) := dGR_20_c_638.2.2.2.2.2.1
theorem dX1_takeRule_96 : decode cX1_takeRule 96 = .ok (.invokevirtual 123, 3) := dGR_20_c_638.2.2.2.2.2.2.1
theorem dX1_takeRule_99 : decode cX1_takeRule 99 = .ok (.ifCond .ne 5, 3) := dGR_20_c_638.2.2.2.2.2.2.2.1
theorem dX1_takeRule_102 : decode cX1_takeRule 102 = .ok (.iconst 0, 1) := dGR_20_c_638.2.2.2.2.2.2.2.2.1
theorem dX1_takeRule_103 : decode cX1_takeRule 103 = .ok (.ireturn, 1) := dGR_20_c_638.2.2.2.2.2.2.2.2.2.1
theorem dX1_takeRule_104 : decode cX1_takeRule 104 = .ok (.aload_n 0, 1) := dGR_20_c_638.2.2.2.2.2.2.2.2.2.2.1
theorem dX1_takeRule_105 : decode cX1_takeRule 105 = .ok (.getfield 127, 3) := dGR_20_c_638.2.2.2.2.2.2.2.2.2.2.2
set_option maxRecDepth 100000 in
theorem dGR_20_c_639 : (decode cX1_takeRule 108 = .ok (.istore 4, 2)) ∧ (decode cX1_takeRule 110 = .ok (.aload_n 0, 1)) ∧ (decode cX1_takeRule 111 = .ok (.invokevirtual 57, 3)) ∧ (decode cX1_takeRule 114 = .ok (.ifCond .eq 25, 3)) ∧ (decode cX1_takeRule 117 = .ok (.aload_n 0, 1)) ∧ (decode cX1_takeRule 118 = .ok (.aload_n 0, 1)) ∧ (decode cX1_takeRule 119 = .ok (.getfield 12, 3)) ∧ (decode cX1_takeRule 122 = .ok (.iload_n 2, 1)) ∧ (decode cX1_takeRule 123 = .ok (.invokevirtual 159, 3)) ∧ (decode cX1_takeRule 126 = .ok (.invokevirtual 162, 3)) ∧ (decode cX1_takeRule 129 = .ok (.ifCond .eq 10, 3)) ∧ (decode cX1_takeRule 132 = .ok (.aload_n 0, 1)) := by decide +kernel
theorem dX1_takeRule_108 : decode cX1_takeRule 108 = .ok (.istore 4, 2) := dGR_20_c_639.1
theorem dX1_takeRule_110 : decode cX1_takeRule 110 = .ok (.aload_n 0, 1) := dGR_20_c_639.2.1
theorem dX1_takeRule_111 : decode cX1_takeRule 111 = .ok (.invokevirtual 57, 3) := dGR_20_c_639.2.2.1
theorem dX1_takeRule_114 : decode cX1_takeRule 114 = .ok (.ifCond .eq 25, 3) := dGR_20_c_639.2.2.2.1
theorem dX1_takeRule_117 : decode cX1_takeRule 117 = .ok (.aload_n 0, 1) := dGR_20_c_639.2.2.2.2.1
theorem dX1_takeRule_118 : decode cX1_takeRule 118 = .ok (.aload_n 0, 1) := dGR_20_c_639.2.2.2.2.2.1
theorem dX1_takeRule_119 : decode cX1_takeRule 119 = .ok (.getfield 12, 3) := dGR_20_c_639.2.2.2.2.2.2.1
theorem dX1_takeRule_122 : decode cX1_takeRule 122 = .ok (.iload_n 2, 1) := dGR_20_c_639.2.2.2.2.2.2.2.1
theorem dX1_takeRule_123 : decode cX1_takeRule 123 = .ok (.invokevirtual 159, 3) := dGR_20_c_639.2.2.2.2.2.2.2.2.1
theorem dX1_takeRule_126 : decode cX1_takeRule 126 = .ok (.invokevirtual 162, 3) := dGR_20_c_639.2.2.2.2.2.2.2.2.2.1
theorem dX1_takeRule_129 : decode cX1_takeRule 129 = .ok (.ifCond .eq 10, 3) := dGR_20_c_639.2.2.2.2.2.2.2.2.2.2.1
theorem dX1_takeRule_132 : decode cX1_takeRule 132 = .ok (.aload_n 0, 1) := dGR_20_c_639.2.2.2.2.2.2.2.2.2.2.2
set_option maxRecDepth 100000 in
theorem dGR_20_c_640 : (decode cX1_takeRule 133 = .ok (.invokevirtual 120, 3)) ∧ (decode cX1_takeRule 136 = .ok (.ifCond .ne 5, 3)) ∧ (decode cX1_takeRule 139 = .ok (.iconst 0, 1)) ∧ (decode cX1_takeRule 140 = .ok (.ireturn, 1)) ∧ (decode cX1_takeRule 141 = .ok (.aload_n 1, 1)) ∧ (decode cX1_takeRule 142 = .ok (.iload_n 2, 1)) ∧ (decode cX1_takeRule 143 = .ok (.iload_n 3, 1)) ∧ (decode cX1_takeRule 144 = .ok (.iload 4, 2)) ∧ (decode cX1_takeRule 146 = .ok (.aload_n 0, 1)) ∧ (decode cX1_takeRule 147 = .ok (.getfield 127, 3)) ∧ (decode cX1_takeRule 150 = .ok (.invokevirtual 165, 3)) ∧ (decode cX1_takeRule 153 = .ok (.iconst (-1), 1)) := by decide +kernel
theorem dX1_takeRule_133 : decode cX1_takeRule 133 = .ok (.invokevirtual 120, 3) := dGR_20_c_640.1
theorem dX1_takeRule_136 : decode cX1_takeRule 136 = .ok (.ifCond .ne 5, 3) := dGR_20_c_640.2.1
theorem dX1_takeRule_139 : decode cX1_takeRule 139 = .ok (.iconst 0, 1) := dGR_20_c_640.2.2.1
theorem dX1_takeRule_140 : decode cX1_takeRule 140 = .ok (.ireturn, 1) := dGR_20_c_640.2.2.2.1
theorem dX1_takeRule_141 : decode cX1_takeRule 141 = .ok (.aload_n 1, 1) := dGR_20_c_640.2.2.2.2.1
theorem dX1_takeRule_142 : decode cX1_takeRule 142 = .ok (.iload_n 2, 1) := dGR_20_c_640.2.2.2.2.2.1
theorem dX1_takeRule_143 : decode cX1_takeRule 143 = .ok (.iload_n 3, 1) := dGR_20_c_640.2.2.2.2.2.2.1
theorem dX1_takeRule_144 : decode cX1_takeRule 144 = .ok (.iload 4, 2) := dGR_20_c_640.2.2.2.2.2.2.2.1
theorem dX1_takeRule_146 : decode cX1_takeRule 146 = .ok (.aload_n 0, 1) := dGR_20_c_640.2.2.2.2.2.2.2.2.1
theorem dX1_takeRule_147 : decode cX1_takeRule 147 = .ok (.getfield 127, 3) := dGR_20_c_640.2.2.2.2.2.2.2.2.2.1
theorem dX1_takeRule_150 : decode cX1_takeRule 150 = .ok (.invokevirtual 165, 3) := dGR_20_c_640.2.2.2.2.2.2.2.2.2.2.1
theorem dX1_takeRule_153 : decode cX1_takeRule 153 = .ok (.iconst (-1), 1) := dGR_20_c_640.2.2.2.2.2.2.2.2.2.2.2
set_option maxRecDepth 100000 in
theorem dGR_20_c_641 : (decode cX1_takeRule 154 = .ok (.if_icmp .eq 9, 3)) ∧ (decode cX1_takeRule 157 = .ok (.aload_n 0, 1)) ∧ (decode cX1_takeRule 158 = .ok (.iconst 5, 1)) ∧ (decode cX1_takeRule 159 = .ok (.invokevirtual 89, 3)) ∧ (decode cX1_takeRule 162 = .ok (.ireturn, 1)) ∧ (decode cX1_takeRule 163 = .ok (.aload_n 1, 1)) ∧ (decode cX1_takeRule 164 = .ok (.iload_n 2, 1)) ∧ (decode cX1_takeRule 165 = .ok (.iload_n 3, 1)) ∧ (decode cX1_takeRule 166 = .ok (.iload 4, 2)) ∧ (decode cX1_takeRule 168 = .ok (.aload_n 0, 1)) ∧ (decode cX1_takeRule 169 = .ok (.getfield 127, 3)) ∧ (decode cX1_takeRule 172 = .ok (.invokevirtual 169, 3)) := by decide +kernel
theorem dX1_takeRule_154 : decode cX1_takeRule 154 = .ok (.if_icmp .eq 9, 3) := dGR_20_c_641.1
theorem dX1_takeRule_157 : decode cX1_takeRule 157 = .ok (.aload_n 0, 1) := dGR_20_c_641.2.1
theorem dX1_takeRule_158 : decode cX1_takeRule 158 = .ok (.iconst 5, 1) := dGR_20_c_641.2.2.1
theorem dX1_takeRule_159 : decode cX1_takeRule 159 = .ok (.invokevirtual 89, 3) := dGR_20_c_641.2.2.2.1
theorem dX1_takeRule_162 : decode cX1_takeRule 162 = .ok (.ireturn, 1) := dGR_20_c_641.2.2.2.2.1
theorem dX1_takeRule_163 : decode cX1_takeRule 163 = .ok (.aload_n 1, 1) := dGR_20_c_641.2.2.2.2.2.1
theorem dX1_takeRule_164 : decode cX1_takeRule 164 = .ok (.iload_n 2, 1) := dGR_20_c_641.2.2.2.2.2.2.1
theorem dX1_takeRule_165 : decode cX1_takeRule 165 = .ok (.iload_n 3, 1) := dGR_20_c_641.2.2.2.2.2.2.2.1
theorem dX1_takeRule_166 : decode cX1_takeRule 166 = .ok (.iload 4, 2) := dGR_20_c_641.2.2.2.2.2.2.2.2.1
theorem dX1_takeRule_168 : decode cX1_takeRule 168 = .ok (.aload_n 0, 1) := dGR_20_c_641.2.2.2.2.2.2.2.2.2.1
theorem dX1_takeRule_169 : decode cX1_takeRule 169 = .ok (.getfield 127, 3) := dGR_20_c_641.2.2.2.2.2.2.2.2.2.2.1
theorem dX1_takeRule_172 : decode cX1_takeRule 172 = .ok (.invokevirtual 169, 3) := dGR_20_c_641.2.2.2.2.2.2.2.2.2.2.2
theorem dX1_takeRule_175 : decode cX1_takeRule 175 = .ok (.iconst 1, 1) := by decide +kernel
theorem dX1_takeRule_176 : decode cX1_takeRule 176 = .ok (.ireturn, 1) := by decide +kernel
set_option maxRecDepth 100000 in
theorem dGR_20_c_642 : (decode cX1_takePart 0 = .ok (.aload_n 0, 1)) ∧ (decode cX1_takePart 1 = .ok (.ldc 67, 2)) ∧ (decode cX1_takePart 3 = .ok (.invokevirtual 69, 3)) ∧ (decode cX1_takePart 6 = .ok (.ifCond .eq 9, 3)) ∧ (decode cX1_takePart 9 = .ok (.aload_n 0, 1)) ∧ (decode cX1_takePart 10 = .ok (.iconst 0, 1)) ∧ (decode cX1_takePart 11 = .ok (.invokevirtual 73, 3)) ∧ (decode cX1_takePart 14 = .ok (.ireturn, 1)) ∧ (decode cX1_takePart 15 = .ok (.aload_n 0, 1)) ∧ (decode cX1_takePart 16 = .ok (.ldc 77, 2)) ∧ (decode cX1_takePart 18 = .ok (.invokevirtual 69, 3)) ∧ (decode cX1_takePart 21 = .ok (.ifCond .eq 9, 3)) := by decide +kernel
theorem dX1_takePart_0 : decode cX1_takePart 0 = .ok (.aload_n 0, 1) := dGR_20_c_642.1
theorem dX1_takePart_1 : decode cX1_takePart 1 = .ok (.ldc 67, 2) := dGR_20_c_642.2.1
theorem dX1_takePart_3 : decode cX1_takePart 3 = .ok (.invokevirtual 69, 3) := dGR_20_c_642.2.2.1
theorem dX1_takePart_6 : decode cX1_takePart 6 = .ok (.ifCond .eq 9, 3) := dGR_20_c_642.2.2.2.1
theorem dX1_takePart_9 : decode cX1_takePart 9 = .ok (.aload_n 0, 1) := dGR_20_c_642.2.2.2.2.1
theorem dX1_takePart_10 : decode cX1_takePart 10 = .ok (.iconst 0, 1) := dGR_20_c_642.2.2.2.2.2.1
theorem dX1_takePart_11 : decode cX1_takePart 11 = .ok (.invokevirtual 73, 3) := dGR_20_c_642.2.2.2.2.2.2.1
theorem dX1_takePart_14 : decode cX1_takePart 14 = .ok (.ireturn, 1) := dGR_20_c_642.2.2.2.2.2.2.2.1
theorem dX1_takePart_15 : decode cX1_takePart 15 = .ok (.aload_n 0, 1) := dGR_20_c_642.2.2.2.2.2.2.2.2.1
theorem dX1_takePart_16 : decode cX1_takePart 16 = .ok (.ldc 77, 2) := dGR_20_c_642.2.2.2.2.2.2.2.2.2.1
theorem dX1_takePart_18 : decode cX1_takePart 18 = .ok (.invokevirtual 69, 3) := dGR_20_c_642.2.2.2.2.2.2.2.2.2.2.1
theorem dX1_takePart_21 : decode cX1_takePart 21 = .ok (.ifCond .eq 9, 3) := dGR_20_c_642.2.2.2.2.2.2.2.2.2.2.2
set_option maxRecDepth 100000 in
theorem dGR_20_c_643 : (decode cX1_takePart 24 = .ok (.aload_n 0, 1)) ∧ (decode cX1_takePart 25 = .ok (.iconst 1, 1)) ∧ (decode cX1_takePart 26 = .ok (.invokevirtual 73, 3)) ∧ (decode cX1_takePart 29 = .ok (.ireturn, 1)) ∧ (decode cX1_takePart 30 = .ok (.aload_n 0, 1)) ∧ (decode cX1_takePart 31 = .ok (.ldc 79, 2)) ∧ (decode cX1_takePart 33 = .ok (.invokevirtual 69, 3)) ∧ (decode cX1_takePart 36 = .ok (.ifCond .eq 9, 3)) ∧ (decode cX1_takePart 39 = .ok (.aload_n 0, 1)) ∧ (decode cX1_takePart 40 = .ok (.iconst 2, 1)) ∧ (decode cX1_takePart 41 = .ok (.invokevirtual 73, 3)) ∧ (decode cX1_takePart 44 = .ok (.ireturn, 1)) := by decide +kernel
theorem dX1_takePart_24 : decode cX1_takePart 24 = .ok (.aload_n 0, 1) := dGR_20_c_643.1
theorem dX1_takePart_25 : decode cX1_takePart 25 = .ok (.iconst 1, 1) := dGR_20_c_643.2.1
theorem dX1_takePart_26 : decode cX1_takePart 26 = .ok (.invokevirtual 73, 3) := dGR_20_c_643.2.2.1
theorem dX1_takePart_29 : decode cX1_takePart 29 = .ok (.ireturn, 1) := dGR_20_c_643.2.2.2.1
theorem dX1_takePart_30 : decode cX1_takePart 30 = .ok (.aload_n 0, 1) := dGR_20_c_643.2.2.2.2.1
theorem dX1_takePart_31 : decode cX1_takePart 31 = .ok (.ldc 79, 2) := dGR_20_c_643.2.2.2.2.2.1
theorem dX1_takePart_33 : decode cX1_takePart 33 = .ok (.invokevirtual 69, 3) := dGR_20_c_643.2.2.2.2.2.2.1
theorem dX1_takePart_36 : decode cX1_takePart 36 = .ok (.ifCond .eq 9, 3) := dGR_20_c_643.2.2.2.2.2.2.2.1
theorem dX1_takePart_39 : decode cX1_takePart 39 = .ok (.aload_n 0, 1) := dGR_20_c_643.2.2.2.2.2.2.2.2.1
theorem dX1_takePart_40 : decode cX1_takePart 40 = .ok (.iconst 2, 1) := dGR_20_c_643.2.2.2.2.2.2.2.2.2.1
theorem dX1_takePart_41 : decode cX1_takePart 41 = .ok (.invokevirtual 73, 3) := dGR_20_c_643.2.2.2.2.2.2.2.2.2.2.1
theorem dX1_takePart_44 : decode cX1_takePart 44 = .ok (.ireturn, 1) := dGR_20_c_643.2.2.2.2.2.2.2.2.2.2.2
set_option maxRecDepth 100000 in
theorem dGR_20_c_644 : (decode cX1_takePart 45 = .ok (.aload_n 0, 1)) ∧ (decode cX1_takePart 46 = .ok (.ldc 81, 2)) ∧ (decode cX1_takePart 48 = .ok (.invokevirtual 69, 3)) ∧ (decode cX1_takePart 51 = .ok (.ifCond .eq 8, 3)) ∧ (decode cX1_takePart 54 = .ok (.aload_n 0, 1)) ∧ (decode cX1_takePart 55 = .ok (.invokevirtual 83, 3)) ∧ (decode cX1_takePart 58 = .ok (.ireturn, 1)) ∧ (decode cX1_takePart 59 = .ok (.aload_n 0, 1)) ∧ (decode cX1_takePart 60 = .ok (.getfield 12, 3)) ∧ (decode cX1_takePart 63 = .ok (.getfield 86, 3)) ∧ (decode cX1_takePart 66 = .ok (.ifCond .ne 9, 3)) ∧ (decode cX1_takePart 69 = .ok (.aload_n 0, 1)) := by decide +kernel
theorem dX1_takePart_45 : decode cX1_takePart 45 = .ok (.aload_n 0, 1) := dGR_20_c_644.1
theorem dX1_takePart_46 : decode cX1_takePart 46 = .ok (.ldc 81, 2) := dGR_20_c_644.2.1
theorem dX1_takePart_48 : decode cX1_takePart 48 = .ok (.invokevirtual 69, 3) := dGR_20_c_644.2.2.1
theorem dX1_takePart_51 : decode cX1_takePart 51 = .ok (.ifCond .eq 8, 3) := dGR_20_c_644.2.2.2.1
theorem dX1_takePart_54 : decode cX1_takePart 54 = .ok (.aload_n 0, 1) := dGR_20_c_644.2.2.2.2.1
theorem dX1_takePart_55 : decode cX1_takePart 55 = .ok (.invokevirtual 83, 3) := dGR_20_c_644.2.2.2.2.2.1
theorem dX1_takePart_58 : decode cX1_takePart 58 = .ok (.ireturn, 1) := dGR_20_c_644.2.2.2.2.2.2.1
theorem dX1_takePart_59 : decode cX1_takePart 59 = .ok (.aload_n 0, 1) := dGR_20_c_644.2.2.2.2.2.2.2.1
theorem dX1_takePart_60 : decode cX1_takePart 60 = .ok (.getfield 12, 3) := dGR_20_c_644.2.2.2.2.2.2.2.2.1
theorem dX1_takePart_63 : decode cX1_takePart 63 = .ok (.getfield 86, 3) := dGR_20_c_644.2.2.2.2.2.2.2.2.2.1
theorem dX1_takePart_66 : decode cX1_takePart 66 = .ok (.ifCond .ne 9, 3) := dGR_20_c_644.2.2.2.2.2.2.2.2.2.2.1
theorem dX1_takePart_69 : decode cX1_takePart 69 = .ok (.aload_n 0, 1) := dGR_20_c_644.2.2.2.2.2.2.2.2.2.2.2
set_option maxRecDepth 100000 in
theorem dGR_20_c_645 : (decode cX1_takePart 70 = .ok (.iconst 2, 1)) ∧ (decode cX1_takePart 71 = .ok (.invokevirtual 89, 3)) ∧ (decode cX1_takePart 74 = .ok (.ireturn, 1)) ∧ (decode cX1_takePart 75 = .ok (.aload_n 0, 1)) ∧ (decode cX1_takePart 76 = .ok (.ldc 92, 2)) ∧ (decode cX1_takePart 78 = .ok (.invokevirtual 69, 3)) ∧ (decode cX1_takePart 81 = .ok (.ifCond .eq 9, 3)) ∧ (decode cX1_takePart 84 = .ok (.aload_n 0, 1)) ∧ (decode cX1_takePart 85 = .ok (.iconst 1, 1)) ∧ (decode cX1_takePart 86 = .ok (.invokevirtual 94, 3)) ∧ (decode cX1_takePart 89 = .ok (.ireturn, 1)) ∧ (decode cX1_takePart 90 = .ok (.aload_n 0, 1)) := by decide +kernel
theorem dX1_takePart_70 : decode cX1_takePart 70 = .ok (.iconst 2, 1) := dGR_20_c_645.1
theorem dX1_takePart_71 : decode cX1_takePart 71 = .ok (.invokevirtual 89, 3) := dGR_20_c_645.2.1
theorem dX1_takePart_74 : decode cX1_takePart 74 = .ok (.ireturn, 1) := dGR_20_c_645.2.2.1
theorem dX1_takePart_75 : decode cX1_takePart 75 = .ok (.aload_n 0, 1) := dGR_20_c_645.2.2.2.1
theorem dX1_takePart_76 : decode cX1_takePart 76 = .ok (.ldc 92, 2) := dGR_20_c_645.2.2.2.2.1
theorem dX1_takePart_78 : decode cX1_takePart 78 = .ok (.invokevirtual 69, 3) := dGR_20_c_645.2.2.2.2.2.1
theorem dX1_takePart_81 : decode cX1_takePart 81 = .ok (.ifCond .eq 9, 3) := dGR_20_c_645.2.2.2.2.2.2.1
theorem dX1_takePart_84 : decode cX1_takePart 84 = .ok (.aload_n 0, 1) := dGR_20_c_645.2.2.2.2.2.2.2.1
theorem dX1_takePart_85 : decode cX1_takePart 85 = .ok (.iconst 1, 1) := dGR_20_c_645.2.2.2.2.2.2.2.2.1
theorem dX1_takePart_86 : decode cX1_takePart 86 = .ok (.invokevirtual 94, 3) := dGR_20_c_645.2.2.2.2.2.2.2.2.2.1
theorem dX1_takePart_89 : decode cX1_takePart 89 = .ok (.ireturn, 1) := dGR_20_c_645.2.2.2.2.2.2.2.2.2.2.1
theorem dX1_takePart_90 : decode cX1_takePart 90 = .ok (.aload_n 0, 1) := dGR_20_c_645.2.2.2.2.2.2.2.2.2.2.2
set_option maxRecDepth 100000 in
theorem dGR_20_c_646 : (decode cX1_takePart 91 = .ok (.ldc 98, 2)) ∧ (decode cX1_takePart 93 = .ok (.invokevirtual 69, 3)) ∧ (decode cX1_takePart 96 = .ok (.ifCond .eq 9, 3)) ∧ (decode cX1_takePart 99 = .ok (.aload_n 0, 1)) ∧ (decode cX1_takePart 100 = .ok (.iconst 0, 1)) ∧ (decode cX1_takePart 101 = .ok (.invokevirtual 94, 3)) ∧ (decode cX1_takePart 104 = .ok (.ireturn, 1)) ∧ (decode cX1_takePart 105 = .ok (.aload_n 0, 1)) ∧ (decode cX1_takePart 106 = .ok (.ldc 100, 2)) ∧ (decode cX1_takePart 108 = .ok (.invokevirtual 69, 3)) ∧ (decode cX1_takePart 111 = .ok (.ifCond .eq 10, 3)) ∧ (decode cX1_takePart 114 = .ok (.aload_n 0, 1)) := by decide +kernel
theorem dX1_takePart_91 : decode cX1_takePart 91 = .ok (.ldc 98, 2) := dGR_20_c_646.1
theorem dX1_takePart_93 : decode cX1_takePart 93 = .ok (.invokevirtual 69, 3) := dGR_20_c_646.2.1
theorem dX1_takePart_96 : decode cX1_takePart 96 = .ok (.ifCond .eq 9, 3) := dGR_20_c_646.2.2.1
theorem dX1_takePart_99 : decode cX1_takePart 99 = .ok (.aload_n 0, 1) := dGR_20_c_646.2.2.2.1
theorem dX1_takePart_100 : decode cX1_takePart 100 = .ok (.iconst 0, 1) := dGR_20_c_646.2.2.2.2.1
theorem dX1_takePart_101 : decode cX1_takePart 101 = .ok (.invokevirtual 94, 3) := dGR_20_c_646.2.2.2.2.2.1
theorem dX1_takePart_104 : decode cX1_takePart 104 = .ok (.ireturn, 1) := dGR_20_c_646.2.2.2.2.2.2.1
theorem dX1_takePart_105 : decode cX1_takePart 105 = .ok (.aload_n 0, 1) := dGR_20_c_646.2.2.2.2.2.2.2.1
theorem dX1_takePart_106 : decode cX1_takePart 106 = .ok (.ldc 100, 2) := dGR_20_c_646.2.2.2.2.2.2.2.2.1
theorem dX1_takePart_108 : decode cX1_takePart 108 = .ok (.invokevirtual 69, 3) := dGR_20_c_646.2.2.2.2.2.2.2.2.2.1
theorem dX1_takePart_111 : decode cX1_takePart 111 = .ok (.ifCond .eq 10, 3) := dGR_20_c_646.2.2.2.2.2.2.2.2.2.2.1
theorem dX1_takePart_114 : decode cX1_takePart 114 = .ok (.aload_n 0, 1) := dGR_20_c_646.2.2.2.2.2.2.2.2.2.2.2
set_option maxRecDepth 100000 in
theorem dGR_20_c_647 : (decode cX1_takePart 115 = .ok (.invokevirtual 102, 3)) ∧ (decode cX1_takePart 118 = .ok (.goto 8, 3)) ∧ (decode cX1_takePart 121 = .ok (.aload_n 0, 1)) ∧ (decode cX1_takePart 122 = .ok (.iconst 2, 1)) ∧ (decode cX1_takePart 123 = .ok (.invokevirtual 89, 3)) ∧ (decode cX1_takePart 126 = .ok (.ireturn, 1)) := by decide +kernel
theorem dX1_takePart_115 : decode cX1_takePart 115 = .ok (.invokevirtual 102, 3) := dGR_20_c_647.1
theorem dX1_takePart_118 : decode cX1_takePart 118 = .ok (.goto 8, 3) := dGR_20_c_647.2.1
theorem dX1_takePart_121 : decode cX1_takePart 121 = .ok (.aload_n 0, 1) := dGR_20_c_647.2.2.1
theorem dX1_takePart_122 : decode cX1_takePart 122 = .ok (.iconst 2, 1) := dGR_20_c_647.2.2.2.1
theorem dX1_takePart_123 : decode cX1_takePart 123 = .ok (.invokevirtual 89, 3) := dGR_20_c_647.2.2.2.2.1
theorem dX1_takePart_126 : decode cX1_takePart 126 = .ok (.ireturn, 1) := dGR_20_c_647.2.2.2.2.2
set_option maxRecDepth 100000 in
theorem dGR_20_c_648 : (decode cX1_take 0 = .ok (.aload_n 0, 1)) ∧ (decode cX1_take 1 = .ok (.iload_n 1, 1)) ∧ (decode cX1_take 2 = .ok (.sipush 900, 3)) ∧ (decode cX1_take 5 = .ok (.invokestatic 39, 3)) ∧ (decode cX1_take 8 = .ok (.putfield 45, 3)) ∧ (decode cX1_take 11 = .ok (.aload_n 0, 1)) ∧ (decode cX1_take 12 = .ok (.iconst 0, 1)) ∧ (decode cX1_take 13 = .ok (.putfield 36, 3)) ∧ (decode cX1_take 16 = .ok (.aload_n 0, 1)) ∧ (decode cX1_take 17 = .ok (.getfield 12, 3)) ∧ (decode cX1_take 20 = .ok (.invokevirtual 48, 3)) ∧ (decode cX1_take 23 = .ok (.aload_n 0, 1)) := by decide +kernel
theorem dX1_take_0 : decode cX1_take 0 = .ok (.aload_n 0, 1) := dGR_20_c_648.1
theorem dX1_take_1 : decode cX1_take 1 = .ok (.iload_n 1, 1) := dGR_20_c_648.2.1
theorem dX1_take_2 : decode cX1_take 2 = .ok (.sipush 900, 3) := dGR_20_c_648.2.2.1
theorem dX1_take_5 : decode cX1_take 5 = .ok (.invokestatic 39, 3) := dGR_20_c_648.2.2.2.1
theorem dX1_take_8 : decode cX1_take 8 = .ok (.putfield 45, 3) := dGR_20_c_648.2.2.2.2.1
theorem dX1_take_11 : decode cX1_take 11 = .ok (.aload_n 0, 1) := dGR_20_c_648.2.2.2.2.2.1
theorem dX1_take_12 : decode cX1_take 12 = .ok (.iconst 0, 1) := dGR_20_c_648.2.2.2.2.2.2.1
theorem dX1_take_13 : decode cX1_take 13 = .ok (.putfield 36, 3) := dGR_20_c_648.2.2.2.2.2.2.2.1
theorem dX1_take_16 : decode cX1_take 16 = .ok (.aload_n 0, 1) := dGR_20_c_648.2.2.2.2.2.2.2.2.1
theorem dX1_take_17 : decode cX1_take 17 = .ok (.getfield 12, 3) := dGR_20_c_648.2.2.2.2.2.2.2.2.2.1
theorem dX1_take_20 : decode cX1_take 20 = .ok (.invokevirtual 48, 3) := dGR_20_c_648.2.2.2.2.2.2.2.2.2.2.1
theorem dX1_take_23 : decode cX1_take 23 = .ok (.aload_n 0, 1) := dGR_20_c_648.2.2.2.2.2.2.2.2.2.2.2
set_option maxRecDepth 100000 in
theorem dGR_20_c_649 : (decode cX1_take 24 = .ok (.iconst 0, 1)) ∧ (decode cX1_take 25 = .ok (.putfield 18, 3)) ∧ (decode cX1_take 28 = .ok (.aload_n 0, 1)) ∧ (decode cX1_take 29 = .ok (.iconst (-1), 1)) ∧ (decode cX1_take 30 = .ok (.putfield 22, 3)) ∧ (decode cX1_take 33 = .ok (.aload_n 0, 1)) ∧ (decode cX1_take 34 = .ok (.iconst 0, 1)) ∧ (decode cX1_take 35 = .ok (.putfield 51, 3)) ∧ (decode cX1_take 38 = .ok (.aload_n 0, 1)) ∧ (decode cX1_take 39 = .ok (.iconst 0, 1)) ∧ (decode cX1_take 40 = .ok (.putfield 54, 3)) ∧ (decode cX1_take 43 = .ok (.iconst 1, 1)) := by decide +kernel
theorem dX1_take_24 : decode cX1_take 24 = .ok (.iconst 0, 1) := dGR_20_c_649.1
theorem dX1_take_25 : decode cX1_take 25 = .ok (.putfield 18, 3) := dGR_20_c_649.2.1
theorem dX1_take_28 : decode cX1_take 28 = .ok (.aload_n 0, 1) := dGR_20_c_649.2.2.1
theorem dX1_take_29 : decode cX1_take 29 = .ok (.iconst (-1), 1) := dGR_20_c_649.2.2.2.1
theorem dX1_take_30 : decode cX1_take 30 = .ok (.putfield 22, 3) := dGR_20_c_649.2.2.2.2.1
theorem dX1_take_33 : decode cX1_take 33 = .ok (.aload_n 0, 1) := dGR_20_c_649.2.2.2.2.2.1
theorem dX1_take_34 : decode cX1_take 34 = .ok (.iconst 0, 1) := dGR_20_c_649.2.2.2.2.2.2.1
theorem dX1_take_35 : decode cX1_take 35 = .ok (.putfield 51, 3) := dGR_20_c_649.2.2.2.2.2.2.2.1
theorem dX1_take_38 : decode cX1_take 38 = .ok (.aload_n 0, 1) := dGR_20_c_649.2.2.2.2.2.2.2.2.1
theorem dX1_take_39 : decode cX1_take 39 = .ok (.iconst 0, 1) := dGR_20_c_649.2.2.2.2.2.2.2.2.2.1
theorem dX1_take_40 : decode cX1_take 40 = .ok (.putfield 54, 3) := dGR_20_c_649.2.2.2.2.2.2.2.2.2.2.1
theorem dX1_take_43 : decode cX1_take 43 = .ok (.iconst 1, 1) := dGR_20_c_649.2.2.2.2.2.2.2.2.2.2.2
set_option maxRecDepth 100000 in
theorem dGR_20_c_650 : (decode cX1_take 44 = .ok (.istore_n 2, 1)) ∧ (decode cX1_take 45 = .ok (.iconst 0, 1)) ∧ (decode cX1_take 46 = .ok (.istore_n 3, 1)) ∧ (decode cX1_take 47 = .ok (.iload_n 3, 1)) ∧ (decode cX1_take 48 = .ok (.aload_n 0, 1)) ∧ (decode cX1_take 49 = .ok (.getfield 45, 3)) ∧ (decode cX1_take 52 = .ok (.if_icmp .gt 48, 3)) ∧ (decode cX1_take 55 = .ok (.iload_n 2, 1)) ∧ (decode cX1_take 56 = .ok (.ifCond .eq 44, 3)) ∧ (decode cX1_take 59 = .ok (.aload_n 0, 1)) ∧ (decode cX1_take 60 = .ok (.invokevirtual 57, 3)) ∧ (decode cX1_take 63 = .ok (.istore_n 2, 1)) := by decide +kernel
theorem dX1_take_44 : decode cX1_take 44 = .ok (.istore_n 2, 1) := dGR_20_c_650.1
theorem dX1_take_45 : decode cX1_take 45 = .ok (.iconst 0, 1) := dGR_20_c_650.2.1
theorem dX1_take_46 : decode cX1_take 46 = .ok (.istore_n 3, 1) := dGR_20_c_650.2.2.1
theorem dX1_take_47 : decode cX1_take 47 = .ok (.iload_n 3, 1) := dGR_20_c_650.2.2.2.1
theorem dX1_take_48 : decode cX1_take 48 = .ok (.aload_n 0, 1) := dGR_20_c_650.2.2.2.2.1
theorem dX1_take_49 : decode cX1_take 49 = .ok (.getfield 45, 3) := dGR_20_c_650.2.2.2.2.2.1
theorem dX1_take_52 : decode cX1_take 52 = .ok (.if_icmp .gt 48, 3) := dGR_20_c_650.2.2.2.2.2.2.1
theorem dX1_take_55 : decode cX1_take 55 = .ok (.iload_n 2, 1) := dGR_20_c_650.2.2.2.2.2.2.2.1
theorem dX1_take_56 : decode cX1_take 56 = .ok (.ifCond .eq 44, 3) := dGR_20_c_650.2.2.2.2.2.2.2.2.1
theorem dX1_take_59 : decode cX1_take 59 = .ok (.aload_n 0, 1) := dGR_20_c_650.2.2.2.2.2.2.2.2.2.1
theorem dX1_take_60 : decode cX1_take 60 = .ok (.invokevirtual 57, 3) := dGR_20_c_650.2.2.2.2.2.2.2.2.2.2.1
theorem dX1_take_63 : decode cX1_take 63 = .ok (.istore_n 2, 1) := dGR_20_c_650.2.2.2.2.2.2.2.2.2.2.2
set_option maxRecDepth 100000 in
theorem dGR_20_c_651 : (decode cX1_take 64 = .ok (.iload_n 2, 1)) ∧ (decode cX1_take 65 = .ok (.ifCond .eq 12, 3)) ∧ (decode cX1_take 68 = .ok (.aload_n 0, 1)) ∧ (decode cX1_take 69 = .ok (.getfield 61, 3)) ∧ (decode cX1_take 72 = .ok (.ifCond .ne 5, 3)) ∧ (decode cX1_take 75 = .ok (.iconst 1, 1)) ∧ (decode cX1_take 76 = .ok (.ireturn, 1)) ∧ (decode cX1_take 77 = .ok (.iload_n 2, 1)) ∧ (decode cX1_take 78 = .ok (.ifCond .eq 14, 3)) ∧ (decode cX1_take 81 = .ok (.aload_n 0, 1)) ∧ (decode cX1_take 82 = .ok (.invokevirtual 64, 3)) ∧ (decode cX1_take 85 = .ok (.ifCond .eq 7, 3)) := by decide +kernel
theorem dX1_take_64 : decode cX1_take 64 = .ok (.iload_n 2, 1) := dGR_20_c_651.1
theorem dX1_take_65 : decode cX1_take 65 = .ok (.ifCond .eq 12, 3) := dGR_20_c_651.2.1
theorem dX1_take_68 : decode cX1_take 68 = .ok (.aload_n 0, 1) := dGR_20_c_651.2.2.1
theorem dX1_take_69 : decode cX1_take 69 = .ok (.getfield 61, 3) := dGR_20_c_651.2.2.2.1
theorem dX1_take_72 : decode cX1_take 72 = .ok (.ifCond .ne 5, 3) := dGR_20_c_651.2.2.2.2.1
theorem dX1_take_75 : decode cX1_take 75 = .ok (.iconst 1, 1) := dGR_20_c_651.2.2.2.2.2.1
theorem dX1_take_76 : decode cX1_take 76 = .ok (.ireturn, 1) := dGR_20_c_651.2.2.2.2.2.2.1
theorem dX1_take_77 : decode cX1_take 77 = .ok (.iload_n 2, 1) := dGR_20_c_651.2.2.2.2.2.2.2.1
theorem dX1_take_78 : decode cX1_take 78 = .ok (.ifCond .eq 14, 3) := dGR_20_c_651.2.2.2.2.2.2.2.2.1
theorem dX1_take_81 : decode cX1_take 81 = .ok (.aload_n 0, 1) := dGR_20_c_651.2.2.2.2.2.2.2.2.2.1
theorem dX1_take_82 : decode cX1_take 82 = .ok (.invokevirtual 64, 3) := dGR_20_c_651.2.2.2.2.2.2.2.2.2.2.1
theorem dX1_take_85 : decode cX1_take 85 = .ok (.ifCond .eq 7, 3) := dGR_20_c_651.2.2.2.2.2.2.2.2.2.2.2
set_option maxRecDepth 100000 in
theorem dGR_20_c_652 : (decode cX1_take 88 = .ok (.iconst 1, 1)) ∧ (decode cX1_take 89 = .ok (.goto 4, 3)) ∧ (decode cX1_take 92 = .ok (.iconst 0, 1)) ∧ (decode cX1_take 93 = .ok (.istore_n 2, 1)) ∧ (decode cX1_take 94 = .ok (.iinc 3 1, 3)) ∧ (decode cX1_take 97 = .ok (.goto (-50), 3)) ∧ (decode cX1_take 100 = .ok (.iload_n 2, 1)) ∧ (decode cX1_take 101 = .ok (.ireturn, 1)) := by decide +kernel
theorem dX1_take_88 : decode cX1_take 88 = .ok (.iconst 1, 1) := dGR_20_c_652.1
theorem dX1_take_89 : decode cX1_take 89 = .ok (.goto 4, 3) := dGR_20_c_652.2.1
theorem dX1_take_92 : decode cX1_take 92 = .ok (.iconst 0, 1) := dGR_20_c_652.2.2.1
theorem dX1_take_93 : decode cX1_take 93 = .ok (.istore_n 2, 1) := dGR_20_c_652.2.2.2.1
theorem dX1_take_94 : decode cX1_take 94 = .ok (.iinc 3 1, 3) := dGR_20_c_652.2.2.2.2.1
theorem dX1_take_97 : decode cX1_take 97 = .ok (.goto (-50), 3) := dGR_20_c_652.2.2.2.2.2.1
theorem dX1_take_100 : decode cX1_take 100 = .ok (.iload_n 2, 1) := dGR_20_c_652.2.2.2.2.2.2.1
theorem dX1_take_101 : decode cX1_take 101 = .ok (.ireturn, 1) := dGR_20_c_652.2.2.2.2.2.2.2
set_option maxRecDepth 100000 in
theorem dGR_20_c_653 : (decode cX11_feed 0 = .ok (.aload_n 0, 1)) ∧ (decode cX11_feed 1 = .ok (.getfield 19, 3)) ∧ (decode cX11_feed 4 = .ok (.getfield 126, 3)) ∧ (decode cX11_feed 7 = .ok (.bipush 20, 2)) ∧ (decode cX11_feed 9 = .ok (.iadd, 1)) ∧ (decode cX11_feed 10 = .ok (.sipush 900, 3)) ∧ (decode cX11_feed 13 = .ok (.if_icmp .le 5, 3)) ∧ (decode cX11_feed 16 = .ok (.iconst (-1), 1)) ∧ (decode cX11_feed 17 = .ok (.ireturn, 1)) ∧ (decode cX11_feed 18 = .ok (.aload_n 0, 1)) ∧ (decode cX11_feed 19 = .ok (.getfield 19, 3)) ∧ (decode cX11_feed 22 = .ok (.iload_n 1, 1)) := by decide +kernel
theorem dX11_feed_0 : decode cX11_feed 0 = .ok (.aload_n 0, 1) := dGR_20_c_653.1
theorem dX11_feed_1 : decode cX11_feed 1 = .ok (.getfield 19, 3) := dGR_20_c_653.2.1
theorem dX11_feed_4 : decode cX11_feed 4 = .ok (.getfield 126, 3) := dGR_20_c_653.2.2.1
theorem dX11_feed_7 : decode cX11_feed 7 = .ok (.bipush 20, 2) := dGR_20_c_653.2.2.2.1
theorem dX11_feed_9 : decode cX11_feed 9 = .ok (.iadd, 1) := dGR_20_c_653.2.2.2.2.1
theorem dX11_feed_10 : decode cX11_feed 10 = .ok (.sipush 900, 3) := dGR_20_c_653.2.2.2.2.2.1
theorem dX11_feed_13 : decode cX11_feed 13 = .ok (.if_icmp .le 5, 3) := dGR_20_c_653.2.2.2.2.2.2.1
theorem dX11_feed_16 : decode cX11_feed 16 = .ok (.iconst (-1), 1) := dGR_20_c_653.2.2.2.2.2.2.2.1
theorem dX11_feed_17 : decode cX11_feed 17 = .ok (.ireturn, 1) := dGR_20_c_653.2.2.2.2.2.2.2.2.1
theorem dX11_feed_18 : decode cX11_feed 18 = .ok (.aload_n 0, 1) := dGR_20_c_653.2.2.2.2.2.2.2.2.2.1
theorem dX11_feed_19 : decode cX11_feed 19 = .ok (.getfield 19, 3) := dGR_20_c_653.2.2.2.2.2.2.2.2.2.2.1
theorem dX11_feed_22 : decode cX11_feed 22 = .ok (.iload_n 1, 1) := dGR_20_c_653.2.2.2.2.2.2.2.2.2.2.2
set_option maxRecDepth 100000 in
theorem dGR_20_c_654 : (decode cX11_feed 23 = .ok (.invokevirtual 129, 3)) ∧ (decode cX11_feed 26 = .ok (.aload_n 0, 1)) ∧ (decode cX11_feed 27 = .ok (.getfield 19, 3)) ∧ (decode cX11_feed 30 = .ok (.iload_n 2, 1)) ∧ (decode cX11_feed 31 = .ok (.invokevirtual 129, 3)) ∧ (decode cX11_feed 34 = .ok (.aload_n 0, 1)) ∧ (decode cX11_feed 35 = .ok (.getfield 19, 3)) ∧ (decode cX11_feed 38 = .ok (.iload_n 3, 1)) ∧ (decode cX11_feed 39 = .ok (.invokevirtual 129, 3)) ∧ (decode cX11_feed 42 = .ok (.aload_n 0, 1)) ∧ (decode cX11_feed 43 = .ok (.getfield 19, 3)) ∧ (decode cX11_feed 46 = .ok (.iload 4, 2)) := by decide +kernel
theorem dX11_feed_23 : decode cX11_feed 23 = .ok (.invokevirtual 129, 3) := dGR_20_c_654.1
theorem dX11_feed_26 : decode cX11_feed 26 = .ok (.aload_n 0, 1) := dGR_20_c_654.2.1
theorem dX11_feed_27 : decode cX11_feed 27 = .ok (.getfield 19, 3) := dGR_20_c_654.2.2.1
theorem dX11_feed_30 : decode cX11_feed 30 = .ok (.iload_n 2, 1) := dGR_20_c_654.2.2.2.1
theorem dX11_feed_31 : decode cX11_feed 31 = .ok (.invokevirtual 129, 3) := dGR_20_c_654.2.2.2.2.1
theorem dX11_feed_34 : decode cX11_feed 34 = .ok (.aload_n 0, 1) := dGR_20_c_654.2.2.2.2.2.1
theorem dX11_feed_35 : decode cX11_feed 35 = .ok (.getfield 19, 3) := dGR_20_c_654.2.2.2.2.2.2.1
theorem dX11_feed_38 : decode cX11_feed 38 = .ok (.iload_n 3, 1) := dGR_20_c_654.2.2.2.2.2.2.2.1
theorem dX11_feed_39 : decode cX11_feed 39 = .ok (.invokevirtual 129, 3) := dGR_20_c_654.2.2.2.2.2.2.2.2.1
theorem dX11_feed_42 : decode cX11_feed 42 = .ok (.aload_n 0, 1) := dGR_20_c_654.2.2.2.2.2.2.2.2.2.1
theorem dX11_feed_43 : decode cX11_feed 43 = .ok (.getfield 19, 3) := dGR_20_c_654.2.2.2.2.2.2.2.2.2.2.1
theorem dX11_feed_46 : decode cX11_feed 46 = .ok (.iload 4, 2) := dGR_20_c_654.2.2.2.2.2.2.2.2.2.2.2
set_option maxRecDepth 100000 in
theorem dGR_20_c_655 : (decode cX11_feed 48 = .ok (.invokevirtual 129, 3)) ∧ (decode cX11_feed 51 = .ok (.aload_n 0, 1)) ∧ (decode cX11_feed 52 = .ok (.getfield 19, 3)) ∧ (decode cX11_feed 55 = .ok (.iload 5, 2)) ∧ (decode cX11_feed 57 = .ok (.invokevirtual 129, 3)) ∧ (decode cX11_feed 60 = .ok (.aload_n 0, 1)) ∧ (decode cX11_feed 61 = .ok (.getfield 19, 3)) ∧ (decode cX11_feed 64 = .ok (.getfield 126, 3)) ∧ (decode cX11_feed 67 = .ok (.ireturn, 1)) := by decide +kernel
theorem dX11_feed_48 : decode cX11_feed 48 = .ok (.invokevirtual 129, 3) := dGR_20_c_655.1
theorem dX11_feed_51 : decode cX11_feed 51 = .ok (.aload_n 0, 1) := dGR_20_c_655.2.1
theorem dX11_feed_52 : decode cX11_feed 52 = .ok (.getfield 19, 3) := dGR_20_c_655.2.2.1
theorem dX11_feed_55 : decode cX11_feed 55 = .ok (.iload 5, 2) := dGR_20_c_655.2.2.2.1
theorem dX11_feed_57 : decode cX11_feed 57 = .ok (.invokevirtual 129, 3) := dGR_20_c_655.2.2.2.2.1
theorem dX11_feed_60 : decode cX11_feed 60 = .ok (.aload_n 0, 1) := dGR_20_c_655.2.2.2.2.2.1
theorem dX11_feed_61 : decode cX11_feed 61 = .ok (.getfield 19, 3) := dGR_20_c_655.2.2.2.2.2.2.1
theorem dX11_feed_64 : decode cX11_feed 64 = .ok (.getfield 126, 3) := dGR_20_c_655.2.2.2.2.2.2.2.1
theorem dX11_feed_67 : decode cX11_feed 67 = .ok (.ireturn, 1) := dGR_20_c_655.2.2.2.2.2.2.2.2
set_option maxRecDepth 100000 in
theorem dGR_20_c_656 : (decode cX11_checker 0 = .ok (.iload_n 1, 1)) ∧ (decode cX11_checker 1 = .ok (.ifCond .lt 14, 3)) ∧ (decode cX11_checker 4 = .ok (.iload_n 1, 1)) ∧ (decode cX11_checker 5 = .ok (.aload_n 0, 1)) ∧ (decode cX11_checker 6 = .ok (.getfield 19, 3)) ∧ (decode cX11_checker 9 = .ok (.getfield 126, 3)) ∧ (decode cX11_checker 12 = .ok (.if_icmp .le 9, 3)) ∧ (decode cX11_checker 15 = .ok (.aload_n 0, 1)) ∧ (decode cX11_checker 16 = .ok (.iconst 1, 1)) ∧ (decode cX11_checker 17 = .ok (.invokevirtual 110, 3)) ∧ (decode cX11_checker 20 = .ok (.ireturn, 1)) ∧ (decode cX11_checker 21 = .ok (.aload_n 0, 1)) := by decide +kernel
theorem dX11_checker_0 : decode cX11_checker 0 = .ok (.iload_n 1, 1) := dGR_20_c_656.1
theorem dX11_checker_1 : decode cX11_checker 1 = .ok (.ifCond .lt 14, 3) := dGR_20_c_656.2.1
theorem dX11_checker_4 : decode cX11_checker 4 = .ok (.iload_n 1, 1) := dGR_20_c_656.2.2.1
theorem dX11_checker_5 : decode cX11_checker 5 = .ok (.aload_n 0, 1) := dGR_20_c_656.2.2.2.1
theorem dX11_checker_6 : decode cX11_checker 6 = .ok (.getfield 19, 3) := dGR_20_c_656.2.2.2.2.1
theorem dX11_checker_9 : decode cX11_checker 9 = .ok (.getfield 126, 3) := dGR_20_c_656.2.2.2.2.2.1
theorem dX11_checker_12 : decode cX11_checker 12 = .ok (.if_icmp .le 9, 3) := dGR_20_c_656.2.2.2.2.2.2.1
theorem dX11_checker_15 : decode cX11_checker 15 = .ok (.aload_n 0, 1) := dGR_20_c_656.2.2.2.2.2.2.2.1
theorem dX11_checker_16 : decode cX11_checker 16 = .ok (.iconst 1, 1) := dGR_20_c_656.2.2.2.2.2.2.2.2.1
theorem dX11_checker_17 : decode cX11_checker 17 = .ok (.invokevirtual 110, 3) := dGR_20_c_656.2.2.2.2.2.2.2.2.2.1
theorem dX11_checker_20 : decode cX11_checker 20 = .ok (.ireturn, 1) := dGR_20_c_656.2.2.2.2.2.2.2.2.2.2.1
theorem dX11_checker_21 : decode cX11_checker 21 = .ok (.aload_n 0, 1) := dGR_20_c_656.2.2.2.2.2.2.2.2.2.2.2
set_option maxRecDepth 100000 in
theorem dGR_20_c_657 : (decode cX11_checker 22 = .ok (.getfield 19, 3)) ∧ (decode cX11_checker 25 = .ok (.iload_n 1, 1)) ∧ (decode cX11_checker 26 = .ok (.invokevirtual 133, 3)) ∧ (decode cX11_checker 29 = .ok (.ifCond .ne 10, 3)) ∧ (decode cX11_checker 32 = .ok (.aload_n 0, 1)) ∧ (decode cX11_checker 33 = .ok (.bipush 9, 2)) ∧ (decode cX11_checker 35 = .ok (.invokevirtual 110, 3)) ∧ (decode cX11_checker 38 = .ok (.ireturn, 1)) ∧ (decode cX11_checker 39 = .ok (.aload_n 0, 1)) ∧ (decode cX11_checker 40 = .ok (.getfield 26, 3)) ∧ (decode cX11_checker 43 = .ok (.astore_n 2, 1)) ∧ (decode cX11_checker 44 = .ok (.aload_n 0, 1)) := by decide +kernel
theorem dX11_checker_22 : decode cX11_checker 22 = .ok (.getfield 19, 3) := dGR_20_c_657.1
theorem dX11_checker_25 : decode cX11_checker 25 = .ok (.iload_n 1, 1) := dGR_20_c_657.2.1
theorem dX11_checker_26 : decode cX11_checker 26 = .ok (.invokevirtual 133, 3) := dGR_20_c_657.2.2.1
theorem dX11_checker_29 : decode cX11_checker 29 = .ok (.ifCond .ne 10, 3) := dGR_20_c_657.2.2.2.1
theorem dX11_checker_32 : decode cX11_checker 32 = .ok (.aload_n 0, 1) := dGR_20_c_657.2.2.2.2.1
theorem dX11_checker_33 : decode cX11_checker 33 = .ok (.bipush 9, 2) := dGR_20_c_657.2.2.2.2.2.1
theorem dX11_checker_35 : decode cX11_checker 35 = .ok (.invokevirtual 110, 3) := dGR_20_c_657.2.2.2.2.2.2.1
theorem dX11_checker_38 : decode cX11_checker 38 = .ok (.ireturn, 1) := dGR_20_c_657.2.2.2.2.2.2.2.1
theorem dX11_checker_39 : decode cX11_checker 39 = .ok (.aload_n 0, 1) := dGR_20_c_657.2.2.2.2.2.2.2.2.1
theorem dX11_checker_40 : decode cX11_checker 40 = .ok (.getfield 26, 3) := dGR_20_c_657.2.2.2.2.2.2.2.2.2.1
theorem dX11_checker_43 : decode cX11_checker 43 = .ok (.astore_n 2, 1) := dGR_20_c_657.2.2.2.2.2.2.2.2.2.2.1
theorem dX11_checker_44 : decode cX11_checker 44 = .ok (.aload_n 0, 1) := dGR_20_c_657.2.2.2.2.2.2.2.2.2.2.2
set_option maxRecDepth 100000 in
theorem dGR_20_c_658 : (decode cX11_checker 45 = .ok (.aload_n 0, 1)) ∧ (decode cX11_checker 46 = .ok (.getfield 19, 3)) ∧ (decode cX11_checker 49 = .ok (.getfield 136, 3)) ∧ (decode cX11_checker 52 = .ok (.putfield 26, 3)) ∧ (decode cX11_checker 55 = .ok (.aload_n 0, 1)) ∧ (decode cX11_checker 56 = .ok (.getfield 19, 3)) ∧ (decode cX11_checker 59 = .ok (.aload_n 2, 1)) ∧ (decode cX11_checker 60 = .ok (.putfield 136, 3)) ∧ (decode cX11_checker 63 = .ok (.aload_n 0, 1)) ∧ (decode cX11_checker 64 = .ok (.invokevirtual 139, 3)) ∧ (decode cX11_checker 67 = .ok (.aload_n 0, 1)) ∧ (decode cX11_checker 68 = .ok (.aload_n 0, 1)) := by decide +kernel
theorem dX11_checker_45 : decode cX11_checker 45 = .ok (.aload_n 0, 1) := dGR_20_c_658.1
theorem dX11_checker_46 : decode cX11_checker 46 = .ok (.getfield 19, 3) := dGR_20_c_658.2.1
theorem dX11_checker_49 : decode cX11_checker 49 = .ok (.getfield 136, 3) := dGR_20_c_658.2.2.1
theorem dX11_checker_52 : decode cX11_checker 52 = .ok (.putfield 26, 3) := dGR_20_c_658.2.2.2.1
theorem dX11_checker_55 : decode cX11_checker 55 = .ok (.aload_n 0, 1) := dGR_20_c_658.2.2.2.2.1
theorem dX11_checker_56 : decode cX11_checker 56 = .ok (.getfield 19, 3) := dGR_20_c_658.2.2.2.2.2.1
theorem dX11_checker_59 : decode cX11_checker 59 = .ok (.aload_n 2, 1) := dGR_20_c_658.2.2.2.2.2.2.1
theorem dX11_checker_60 : decode cX11_checker 60 = .ok (.putfield 136, 3) := dGR_20_c_658.2.2.2.2.2.2.2.1
theorem dX11_checker_63 : decode cX11_checker 63 = .ok (.aload_n 0, 1) := dGR_20_c_658.2.2.2.2.2.2.2.2.1
theorem dX11_checker_64 : decode cX11_checker 64 = .ok (.invokevirtual 139, 3) := dGR_20_c_658.2.2.2.2.2.2.2.2.2.1
theorem dX11_checker_67 : decode cX11_checker 67 = .ok (.aload_n 0, 1) := dGR_20_c_658.2.2.2.2.2.2.2.2.2.2.1
theorem dX11_checker_68 : decode cX11_checker 68 = .ok (.aload_n 0, 1) := dGR_20_c_658.2.2.2.2.2.2.2.2.2.2.2
set_option maxRecDepth 100000 in
theorem dGR_20_c_659 : (decode cX11_checker 69 = .ok (.getfield 26, 3)) ∧ (decode cX11_checker 72 = .ok (.getfield 142, 3)) ∧ (decode cX11_checker 75 = .ok (.invokevirtual 145, 3)) ∧ (decode cX11_checker 78 = .ok (.ireturn, 1)) := by decide +kernel
theorem dX11_checker_69 : decode cX11_checker 69 = .ok (.getfield 26, 3) := dGR_20_c_659.1
theorem dX11_checker_72 : decode cX11_checker 72 = .ok (.getfield 142, 3) := dGR_20_c_659.2.1
theorem dX11_checker_75 : decode cX11_checker 75 = .ok (.invokevirtual 145, 3) := dGR_20_c_659.2.2.1
theorem dX11_checker_78 : decode cX11_checker 78 = .ok (.ireturn, 1) := dGR_20_c_659.2.2.2
