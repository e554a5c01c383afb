set_option maxRecDepth 100000 in
theorem dGR_16_c_452 : (decode cX11_runs 0 = .ok (.aload_n 0, 1)) ∧ (decode cX11_runs 1 = .ok (.aload_n 0, 1)) ∧ (decode cX11_runs 2 = .ok (.getfield 26, 3)) ∧ (decode cX11_runs 5 = .ok (.iload_n 1, 1)) ∧ (decode cX11_runs 6 = .ok (.invokevirtual 163, 3)) ∧ (decode cX11_runs 9 = .ok (.iload_n 2, 1)) ∧ (decode cX11_runs 10 = .ok (.iload_n 3, 1)) ∧ (decode cX11_runs 11 = .ok (.invokevirtual 226, 3)) ∧ (decode cX11_runs 14 = .ok (.istore 4, 2)) ∧ (decode cX11_runs 16 = .ok (.iload 4, 2)) ∧ (decode cX11_runs 18 = .ok (.ifCond .eq 10, 3)) ∧ (decode cX11_runs 21 = .ok (.aload_n 0, 1)) := by decide +kernel
theorem dX11_runs_0 : decode cX11_runs 0 = .ok (.aload_n 0, 1) := dGR_16_c_452.1
theorem dX11_runs_1 : decode cX11_runs 1 = .ok (.aload_n 0, 1) := dGR_16_c_452.2.1
theorem dX11_runs_2 : decode cX11_runs 2 = .ok (.getfield 26, 3) := dGR_16_c_452.2.2.1
theorem dX11_runs_5 : decode cX11_runs 5 = .ok (.iload_n 1, 1) := dGR_16_c_452.2.2.2.1
theorem dX11_runs_6 : decode cX11_runs 6 = .ok (.invokevirtual 163, 3) := dGR_16_c_452.2.2.2.2.1
theorem dX11_runs_9 : decode cX11_runs 9 = .ok (.iload_n 2, 1) := dGR_16_c_452.2.2.2.2.2.1
theorem dX11_runs_10 : decode cX11_runs 10 = .ok (.iload_n 3, 1) := dGR_16_c_452.2.2.2.2.2.2.1
theorem dX11_runs_11 : decode cX11_runs 11 = .ok (.invokevirtual 226, 3) := dGR_16_c_452.2.2.2.2.2.2.2.1
theorem dX11_runs_14 : decode cX11_runs 14 = .ok (.istore 4, 2) := dGR_16_c_452.2.2.2.2.2.2.2.2.1
theorem dX11_runs_16 : decode cX11_runs 16 = .ok (.iload 4, 2) := dGR_16_c_452.2.2.2.2.2.2.2.2.2.1
theorem dX11_runs_18 : decode cX11_runs 18 = .ok (.ifCond .eq 10, 3) := dGR_16_c_452.2.2.2.2.2.2.2.2.2.2.1
theorem dX11_runs_21 : decode cX11_runs 21 = .ok (.aload_n 0, 1) := dGR_16_c_452.2.2.2.2.2.2.2.2.2.2.2
set_option maxRecDepth 100000 in
theorem dGR_16_c_453 : (decode cX11_runs 22 = .ok (.iload 4, 2)) ∧ (decode cX11_runs 24 = .ok (.invokevirtual 91, 3)) ∧ (decode cX11_runs 27 = .ok (.ireturn, 1)) ∧ (decode cX11_runs 28 = .ok (.aload_n 0, 1)) ∧ (decode cX11_runs 29 = .ok (.getfield 26, 3)) ∧ (decode cX11_runs 32 = .ok (.iload_n 1, 1)) ∧ (decode cX11_runs 33 = .ok (.invokevirtual 164, 3)) ∧ (decode cX11_runs 36 = .ok (.astore 5, 2)) ∧ (decode cX11_runs 38 = .ok (.aload_n 0, 1)) ∧ (decode cX11_runs 39 = .ok (.getfield 68, 3)) ∧ (decode cX11_runs 42 = .ok (.invokevirtual 239, 3)) ∧ (decode cX11_runs 45 = .ok (.iconst 0, 1)) := by decide +kernel
theorem dX11_runs_22 : decode cX11_runs 22 = .ok (.iload 4, 2) := dGR_16_c_453.1
theorem dX11_runs_24 : decode cX11_runs 24 = .ok (.invokevirtual 91, 3) := dGR_16_c_453.2.1
theorem dX11_runs_27 : decode cX11_runs 27 = .ok (.ireturn, 1) := dGR_16_c_453.2.2.1
theorem dX11_runs_28 : decode cX11_runs 28 = .ok (.aload_n 0, 1) := dGR_16_c_453.2.2.2.1
theorem dX11_runs_29 : decode cX11_runs 29 = .ok (.getfield 26, 3) := dGR_16_c_453.2.2.2.2.1
theorem dX11_runs_32 : decode cX11_runs 32 = .ok (.iload_n 1, 1) := dGR_16_c_453.2.2.2.2.2.1
theorem dX11_runs_33 : decode cX11_runs 33 = .ok (.invokevirtual 164, 3) := dGR_16_c_453.2.2.2.2.2.2.1
theorem dX11_runs_36 : decode cX11_runs 36 = .ok (.astore 5, 2) := dGR_16_c_453.2.2.2.2.2.2.2.1
theorem dX11_runs_38 : decode cX11_runs 38 = .ok (.aload_n 0, 1) := dGR_16_c_453.2.2.2.2.2.2.2.2.1
theorem dX11_runs_39 : decode cX11_runs 39 = .ok (.getfield 68, 3) := dGR_16_c_453.2.2.2.2.2.2.2.2.2.1
theorem dX11_runs_42 : decode cX11_runs 42 = .ok (.invokevirtual 239, 3) := dGR_16_c_453.2.2.2.2.2.2.2.2.2.2.1
theorem dX11_runs_45 : decode cX11_runs 45 = .ok (.iconst 0, 1) := dGR_16_c_453.2.2.2.2.2.2.2.2.2.2.2
set_option maxRecDepth 100000 in
theorem dGR_16_c_454 : (decode cX11_runs 46 = .ok (.istore 6, 2)) ∧ (decode cX11_runs 48 = .ok (.iload 6, 2)) ∧ (decode cX11_runs 50 = .ok (.iload_n 3, 1)) ∧ (decode cX11_runs 51 = .ok (.if_icmp .ge 42, 3)) ∧ (decode cX11_runs 54 = .ok (.aload_n 0, 1)) ∧ (decode cX11_runs 55 = .ok (.getfield 10, 3)) ∧ (decode cX11_runs 58 = .ok (.iload_n 2, 1)) ∧ (decode cX11_runs 59 = .ok (.iload 6, 2)) ∧ (decode cX11_runs 61 = .ok (.invokevirtual 114, 3)) ∧ (decode cX11_runs 64 = .ok (.l2i, 1)) ∧ (decode cX11_runs 65 = .ok (.istore 7, 2)) ∧ (decode cX11_runs 67 = .ok (.aload_n 0, 1)) := by decide +kernel
theorem dX11_runs_46 : decode cX11_runs 46 = .ok (.istore 6, 2) := dGR_16_c_454.1
theorem dX11_runs_48 : decode cX11_runs 48 = .ok (.iload 6, 2) := dGR_16_c_454.2.1
theorem dX11_runs_50 : decode cX11_runs 50 = .ok (.iload_n 3, 1) := dGR_16_c_454.2.2.1
theorem dX11_runs_51 : decode cX11_runs 51 = .ok (.if_icmp .ge 42, 3) := dGR_16_c_454.2.2.2.1
theorem dX11_runs_54 : decode cX11_runs 54 = .ok (.aload_n 0, 1) := dGR_16_c_454.2.2.2.2.1
theorem dX11_runs_55 : decode cX11_runs 55 = .ok (.getfield 10, 3) := dGR_16_c_454.2.2.2.2.2.1
theorem dX11_runs_58 : decode cX11_runs 58 = .ok (.iload_n 2, 1) := dGR_16_c_454.2.2.2.2.2.2.1
theorem dX11_runs_59 : decode cX11_runs 59 = .ok (.iload 6, 2) := dGR_16_c_454.2.2.2.2.2.2.2.1
theorem dX11_runs_61 : decode cX11_runs 61 = .ok (.invokevirtual 114, 3) := dGR_16_c_454.2.2.2.2.2.2.2.2.1
theorem dX11_runs_64 : decode cX11_runs 64 = .ok (.l2i, 1) := dGR_16_c_454.2.2.2.2.2.2.2.2.2.1
theorem dX11_runs_65 : decode cX11_runs 65 = .ok (.istore 7, 2) := dGR_16_c_454.2.2.2.2.2.2.2.2.2.2.1
theorem dX11_runs_67 : decode cX11_runs 67 = .ok (.aload_n 0, 1) := dGR_16_c_454.2.2.2.2.2.2.2.2.2.2.2
set_option maxRecDepth 100000 in
theorem dGR_16_c_455 : (decode cX11_runs 68 = .ok (.getfield 68, 3)) ∧ (decode cX11_runs 71 = .ok (.aload 5, 2)) ∧ (decode cX11_runs 73 = .ok (.iload 7, 2)) ∧ (decode cX11_runs 75 = .ok (.aload_n 0, 1)) ∧ (decode cX11_runs 76 = .ok (.getfield 26, 3)) ∧ (decode cX11_runs 79 = .ok (.iload 7, 2)) ∧ (decode cX11_runs 81 = .ok (.invokevirtual 242, 3)) ∧ (decode cX11_runs 84 = .ok (.invokevirtual 245, 3)) ∧ (decode cX11_runs 87 = .ok (.iinc 6 1, 3)) ∧ (decode cX11_runs 90 = .ok (.goto (-42), 3)) ∧ (decode cX11_runs 93 = .ok (.aload_n 0, 1)) ∧ (decode cX11_runs 94 = .ok (.aload_n 0, 1)) := by decide +kernel
theorem dX11_runs_68 : decode cX11_runs 68 = .ok (.getfield 68, 3) := dGR_16_c_455.1
theorem dX11_runs_71 : decode cX11_runs 71 = .ok (.aload 5, 2) := dGR_16_c_455.2.1
theorem dX11_runs_73 : decode cX11_runs 73 = .ok (.iload 7, 2) := dGR_16_c_455.2.2.1
theorem dX11_runs_75 : decode cX11_runs 75 = .ok (.aload_n 0, 1) := dGR_16_c_455.2.2.2.1
theorem dX11_runs_76 : decode cX11_runs 76 = .ok (.getfield 26, 3) := dGR_16_c_455.2.2.2.2.1
theorem dX11_runs_79 : decode cX11_runs 79 = .ok (.iload 7, 2) := dGR_16_c_455.2.2.2.2.2.1
theorem dX11_runs_81 : decode cX11_runs 81 = .ok (.invokevirtual 242, 3) := dGR_16_c_455.2.2.2.2.2.2.1
theorem dX11_runs_84 : decode cX11_runs 84 = .ok (.invokevirtual 245, 3) := dGR_16_c_455.2.2.2.2.2.2.2.1
theorem dX11_runs_87 : decode cX11_runs 87 = .ok (.iinc 6 1, 3) := dGR_16_c_455.2.2.2.2.2.2.2.2.1
theorem dX11_runs_90 : decode cX11_runs 90 = .ok (.goto (-42), 3) := dGR_16_c_455.2.2.2.2.2.2.2.2.2.1
theorem dX11_runs_93 : decode cX11_runs 93 = .ok (.aload_n 0, 1) := dGR_16_c_455.2.2.2.2.2.2.2.2.2.2.1
theorem dX11_runs_94 : decode cX11_runs 94 = .ok (.aload_n 0, 1) := dGR_16_c_455.2.2.2.2.2.2.2.2.2.2.2
set_option maxRecDepth 100000 in
theorem dGR_16_c_456 : (decode cX11_runs 95 = .ok (.getfield 68, 3)) ∧ (decode cX11_runs 98 = .ok (.aload 5, 2)) ∧ (decode cX11_runs 100 = .ok (.invokevirtual 248, 3)) ∧ (decode cX11_runs 103 = .ok (.lconst 1, 1)) ∧ (decode cX11_runs 104 = .ok (.invokevirtual 252, 3)) ∧ (decode cX11_runs 107 = .ok (.aload_n 0, 1)) ∧ (decode cX11_runs 108 = .ok (.invokevirtual 98, 3)) ∧ (decode cX11_runs 111 = .ok (.ireturn, 1)) := by decide +kernel
theorem dX11_runs_95 : decode cX11_runs 95 = .ok (.getfield 68, 3) := dGR_16_c_456.1
theorem dX11_runs_98 : decode cX11_runs 98 = .ok (.aload 5, 2) := dGR_16_c_456.2.1
theorem dX11_runs_100 : decode cX11_runs 100 = .ok (.invokevirtual 248, 3) := dGR_16_c_456.2.2.1
theorem dX11_runs_103 : decode cX11_runs 103 = .ok (.lconst 1, 1) := dGR_16_c_456.2.2.2.1
theorem dX11_runs_104 : decode cX11_runs 104 = .ok (.invokevirtual 252, 3) := dGR_16_c_456.2.2.2.2.1
theorem dX11_runs_107 : decode cX11_runs 107 = .ok (.aload_n 0, 1) := dGR_16_c_456.2.2.2.2.2.1
theorem dX11_runs_108 : decode cX11_runs 108 = .ok (.invokevirtual 98, 3) := dGR_16_c_456.2.2.2.2.2.2.1
theorem dX11_runs_111 : decode cX11_runs 111 = .ok (.ireturn, 1) := dGR_16_c_456.2.2.2.2.2.2.2
set_option maxRecDepth 100000 in
theorem dGR_16_c_457 : (decode cX11_depth 0 = .ok (.aload_n 0, 1)) ∧ (decode cX11_depth 1 = .ok (.iload_n 3, 1)) ∧ (decode cX11_depth 2 = .ok (.iconst 0, 1)) ∧ (decode cX11_depth 3 = .ok (.iconst 2, 1)) ∧ (decode cX11_depth 4 = .ok (.invokestatic 87, 3)) ∧ (decode cX11_depth 7 = .ok (.iload_n 1, 1)) ∧ (decode cX11_depth 8 = .ok (.iload_n 2, 1)) ∧ (decode cX11_depth 9 = .ok (.invokevirtual 226, 3)) ∧ (decode cX11_depth 12 = .ok (.istore 4, 2)) ∧ (decode cX11_depth 14 = .ok (.iload 4, 2)) ∧ (decode cX11_depth 16 = .ok (.ifCond .eq 10, 3)) ∧ (decode cX11_depth 19 = .ok (.aload_n 0, 1)) := by decide +kernel
theorem dX11_depth_0 : decode cX11_depth 0 = .ok (.aload_n 0, 1) := dGR_16_c_457.1
theorem dX11_depth_1 : decode cX11_depth 1 = .ok (.iload_n 3, 1) := dGR_16_c_457.2.1
theorem dX11_depth_2 : decode cX11_depth 2 = .ok (.iconst 0, 1) := dGR_16_c_457.2.2.1
theorem dX11_depth_3 : decode cX11_depth 3 = .ok (.iconst 2, 1) := dGR_16_c_457.2.2.2.1
theorem dX11_depth_4 : decode cX11_depth 4 = .ok (.invokestatic 87, 3) := dGR_16_c_457.2.2.2.2.1
theorem dX11_depth_7 : decode cX11_depth 7 = .ok (.iload_n 1, 1) := dGR_16_c_457.2.2.2.2.2.1
theorem dX11_depth_8 : decode cX11_depth 8 = .ok (.iload_n 2, 1) := dGR_16_c_457.2.2.2.2.2.2.1
theorem dX11_depth_9 : decode cX11_depth 9 = .ok (.invokevirtual 226, 3) := dGR_16_c_457.2.2.2.2.2.2.2.1
theorem dX11_depth_12 : decode cX11_depth 12 = .ok (.istore 4, 2) := dGR_16_c_457.2.2.2.2.2.2.2.2.1
theorem dX11_depth_14 : decode cX11_depth 14 = .ok (.iload 4, 2) := dGR_16_c_457.2.2.2.2.2.2.2.2.2.1
theorem dX11_depth_16 : decode cX11_depth 16 = .ok (.ifCond .eq 10, 3) := dGR_16_c_457.2.2.2.2.2.2.2.2.2.2.1
theorem dX11_depth_19 : decode cX11_depth 19 = .ok (.aload_n 0, 1) := dGR_16_c_457.2.2.2.2.2.2.2.2.2.2.2
set_option maxRecDepth 100000 in
theorem dGR_16_c_458 : (decode cX11_depth 20 = .ok (.iload 4, 2)) ∧ (decode cX11_depth 22 = .ok (.invokevirtual 110, 3)) ∧ (decode cX11_depth 25 = .ok (.ireturn, 1)) ∧ (decode cX11_depth 26 = .ok (.iconst 0, 1)) ∧ (decode cX11_depth 27 = .ok (.istore 5, 2)) ∧ (decode cX11_depth 29 = .ok (.iconst 0, 1)) ∧ (decode cX11_depth 30 = .ok (.istore 6, 2)) ∧ (decode cX11_depth 32 = .ok (.iconst 0, 1)) ∧ (decode cX11_depth 33 = .ok (.istore 7, 2)) ∧ (decode cX11_depth 35 = .ok (.iconst 0, 1)) ∧ (decode cX11_depth 36 = .ok (.istore 8, 2)) ∧ (decode cX11_depth 38 = .ok (.iload 8, 2)) := by decide +kernel
theorem dX11_depth_20 : decode cX11_depth 20 = .ok (.iload 4, 2) := dGR_16_c_458.1
theorem dX11_depth_22 : decode cX11_depth 22 = .ok (.invokevirtual 110, 3) := dGR_16_c_458.2.1
theorem dX11_depth_25 : decode cX11_depth 25 = .ok (.ireturn, 1) := dGR_16_c_458.2.2.1
theorem dX11_depth_26 : decode cX11_depth 26 = .ok (.iconst 0, 1) := dGR_16_c_458.2.2.2.1
theorem dX11_depth_27 : decode cX11_depth 27 = .ok (.istore 5, 2) := dGR_16_c_458.2.2.2.2.1
theorem dX11_depth_29 : decode cX11_depth 29 = .ok (.iconst 0, 1) := dGR_16_c_458.2.2.2.2.2.1
theorem dX11_depth_30 : decode cX11_depth 30 = .ok (.istore 6, 2) := dGR_16_c_458.2.2.2.2.2.2.1
theorem dX11_depth_32 : decode cX11_depth 32 = .ok (.iconst 0, 1) := dGR_16_c_458.2.2.2.2.2.2.2.1
theorem dX11_depth_33 : decode cX11_depth 33 = .ok (.istore 7, 2) := dGR_16_c_458.2.2.2.2.2.2.2.2.1
theorem dX11_depth_35 : decode cX11_depth 35 = .ok (.iconst 0, 1) := dGR_16_c_458.2.2.2.2.2.2.2.2.2.1
theorem dX11_depth_36 : decode cX11_depth 36 = .ok (.istore 8, 2) := dGR_16_c_458.2.2.2.2.2.2.2.2.2.2.1
theorem dX11_depth_38 : decode cX11_depth 38 = .ok (.iload 8, 2) := dGR_16_c_458.2.2.2.2.2.2.2.2.2.2.2
set_option maxRecDepth 100000 in
theorem dGR_16_c_459 : (decode cX11_depth 40 = .ok (.iload_n 2, 1)) ∧ (decode cX11_depth 41 = .ok (.if_icmp .ge 64, 3)) ∧ (decode cX11_depth 44 = .ok (.aload_n 0, 1)) ∧ (decode cX11_depth 45 = .ok (.iload_n 1, 1)) ∧ (decode cX11_depth 46 = .ok (.iload 8, 2)) ∧ (decode cX11_depth 48 = .ok (.invokevirtual 256, 3)) ∧ (decode cX11_depth 51 = .ok (.istore 9, 2)) ∧ (decode cX11_depth 53 = .ok (.iload 9, 2)) ∧ (decode cX11_depth 55 = .ok (.ifCond .ne 18, 3)) ∧ (decode cX11_depth 58 = .ok (.iinc 5 1, 3)) ∧ (decode cX11_depth 61 = .ok (.iload 7, 2)) ∧ (decode cX11_depth 63 = .ok (.iload 5, 2)) := by decide +kernel
theorem dX11_depth_40 : decode cX11_depth 40 = .ok (.iload_n 2, 1) := dGR_16_c_459.1
theorem dX11_depth_41 : decode cX11_depth 41 = .ok (.if_icmp .ge 64, 3) := dGR_16_c_459.2.1
theorem dX11_depth_44 : decode cX11_depth 44 = .ok (.aload_n 0, 1) := dGR_16_c_459.2.2.1
theorem dX11_depth_45 : decode cX11_depth 45 = .ok (.iload_n 1, 1) := dGR_16_c_459.2.2.2.1
theorem dX11_depth_46 : decode cX11_depth 46 = .ok (.iload 8, 2) := dGR_16_c_459.2.2.2.2.1
theorem dX11_depth_48 : decode cX11_depth 48 = .ok (.invokevirtual 256, 3) := dGR_16_c_459.2.2.2.2.2.1
theorem dX11_depth_51 : decode cX11_depth 51 = .ok (.istore 9, 2) := dGR_16_c_459.2.2.2.2.2.2.1
theorem dX11_depth_53 : decode cX11_depth 53 = .ok (.iload 9, 2) := dGR_16_c_459.2.2.2.2.2.2.2.1
theorem dX11_depth_55 : decode cX11_depth 55 = .ok (.ifCond .ne 18, 3) := dGR_16_c_459.2.2.2.2.2.2.2.2.1
theorem dX11_depth_58 : decode cX11_depth 58 = .ok (.iinc 5 1, 3) := dGR_16_c_459.2.2.2.2.2.2.2.2.2.1
theorem dX11_depth_61 : decode cX11_depth 61 = .ok (.iload 7, 2) := dGR_16_c_459.2.2.2.2.2.2.2.2.2.2.1
theorem dX11_depth_63 : decode cX11_depth 63 = .ok (.iload 5, 2) := dGR_16_c_459.2.2.2.2.2.2.2.2.2.2.2
set_option maxRecDepth 100000 in
theorem dGR_16_c_460 : (decode cX11_depth 65 = .ok (.invokestatic 259, 3)) ∧ (decode cX11_depth 68 = .ok (.istore 7, 2)) ∧ (decode cX11_depth 70 = .ok (.goto 29, 3)) ∧ (decode cX11_depth 73 = .ok (.iload 9, 2)) ∧ (decode cX11_depth 75 = .ok (.iconst 1, 1)) ∧ (decode cX11_depth 76 = .ok (.if_icmp .ne 14, 3)) ∧ (decode cX11_depth 79 = .ok (.iload 5, 2)) ∧ (decode cX11_depth 81 = .ok (.ifCond .le 9, 3)) ∧ (decode cX11_depth 84 = .ok (.iinc 5 (-1), 3)) ∧ (decode cX11_depth 87 = .ok (.goto 12, 3)) ∧ (decode cX11_depth 90 = .ok (.iload 9, 2)) ∧ (decode cX11_depth 92 = .ok (.iconst 1, 1)) := by decide +kernel
theorem dX11_depth_65 : decode cX11_depth 65 = .ok (.invokestatic 259, 3) := dGR_16_c_460.1
theorem dX11_depth_68 : decode cX11_depth 68 = .ok (.istore 7, 2) := dGR_16_c_460.2.1
theorem dX11_depth_70 : decode cX11_depth 70 = .ok (.goto 29, 3) := dGR_16_c_460.2.2.1
theorem dX11_depth_73 : decode cX11_depth 73 = .ok (.iload 9, 2) := dGR_16_c_460.2.2.2.1
theorem dX11_depth_75 : decode cX11_depth 75 = .ok (.iconst 1, 1) := dGR_16_c_460.2.2.2.2.1
theorem dX11_depth_76 : decode cX11_depth 76 = .ok (.if_icmp .ne 14, 3) := dGR_16_c_460.2.2.2.2.2.1
theorem dX11_depth_79 : decode cX11_depth 79 = .ok (.iload 5, 2) := dGR_16_c_460.2.2.2.2.2.2.1
theorem dX11_depth_81 : decode cX11_depth 81 = .ok (.ifCond .le 9, 3) := dGR_16_c_460.2.2.2.2.2.2.2.1
theorem dX11_depth_84 : decode cX11_depth 84 = .ok (.iinc 5 (-1), 3) := dGR_16_c_460.2.2.2.2.2.2.2.2.1
theorem dX11_depth_87 : decode cX11_depth 87 = .ok (.goto 12, 3) := dGR_16_c_460.2.2.2.2.2.2.2.2.2.1
theorem dX11_depth_90 : decode cX11_depth 90 = .ok (.iload 9, 2) := dGR_16_c_460.2.2.2.2.2.2.2.2.2.2.1
theorem dX11_depth_92 : decode cX11_depth 92 = .ok (.iconst 1, 1) := dGR_16_c_460.2.2.2.2.2.2.2.2.2.2.2
set_option maxRecDepth 100000 in
theorem dGR_16_c_461 : (decode cX11_depth 93 = .ok (.if_icmp .ne 6, 3)) ∧ (decode cX11_depth 96 = .ok (.iinc 6 1, 3)) ∧ (decode cX11_depth 99 = .ok (.iinc 8 1, 3)) ∧ (decode cX11_depth 102 = .ok (.goto (-64), 3)) ∧ (decode cX11_depth 105 = .ok (.iload_n 3, 1)) ∧ (decode cX11_depth 106 = .ok (.ifCond .ne 10, 3)) ∧ (decode cX11_depth 109 = .ok (.aload_n 0, 1)) ∧ (decode cX11_depth 110 = .ok (.iload 5, 2)) ∧ (decode cX11_depth 112 = .ok (.invokevirtual 145, 3)) ∧ (decode cX11_depth 115 = .ok (.ireturn, 1)) ∧ (decode cX11_depth 116 = .ok (.aload_n 0, 1)) ∧ (decode cX11_depth 117 = .ok (.iload_n 3, 1)) := by decide +kernel
theorem dX11_depth_93 : decode cX11_depth 93 = .ok (.if_icmp .ne 6, 3) := dGR_16_c_461.1
theorem dX11_depth_96 : decode cX11_depth 96 = .ok (.iinc 6 1, 3) := dGR_16_c_461.2.1
theorem dX11_depth_99 : decode cX11_depth 99 = .ok (.iinc 8 1, 3) := dGR_16_c_461.2.2.1
theorem dX11_depth_102 : decode cX11_depth 102 = .ok (.goto (-64), 3) := dGR_16_c_461.2.2.2.1
theorem dX11_depth_105 : decode cX11_depth 105 = .ok (.iload_n 3, 1) := dGR_16_c_461.2.2.2.2.1
theorem dX11_depth_106 : decode cX11_depth 106 = .ok (.ifCond .ne 10, 3) := dGR_16_c_461.2.2.2.2.2.1
theorem dX11_depth_109 : decode cX11_depth 109 = .ok (.aload_n 0, 1) := dGR_16_c_461.2.2.2.2.2.2.1
theorem dX11_depth_110 : decode cX11_depth 110 = .ok (.iload 5, 2) := dGR_16_c_461.2.2.2.2.2.2.2.1
theorem dX11_depth_112 : decode cX11_depth 112 = .ok (.invokevirtual 145, 3) := dGR_16_c_461.2.2.2.2.2.2.2.2.1
theorem dX11_depth_115 : decode cX11_depth 115 = .ok (.ireturn, 1) := dGR_16_c_461.2.2.2.2.2.2.2.2.2.1
theorem dX11_depth_116 : decode cX11_depth 116 = .ok (.aload_n 0, 1) := dGR_16_c_461.2.2.2.2.2.2.2.2.2.2.1
theorem dX11_depth_117 : decode cX11_depth 117 = .ok (.iload_n 3, 1) := dGR_16_c_461.2.2.2.2.2.2.2.2.2.2.2
set_option maxRecDepth 100000 in
theorem dGR_16_c_462 : (decode cX11_depth 118 = .ok (.iconst 1, 1)) ∧ (decode cX11_depth 119 = .ok (.if_icmp .ne 8, 3)) ∧ (decode cX11_depth 122 = .ok (.iload 6, 2)) ∧ (decode cX11_depth 124 = .ok (.goto 5, 3)) ∧ (decode cX11_depth 127 = .ok (.iload 7, 2)) ∧ (decode cX11_depth 129 = .ok (.invokevirtual 145, 3)) ∧ (decode cX11_depth 132 = .ok (.ireturn, 1)) := by decide +kernel
theorem dX11_depth_118 : decode cX11_depth 118 = .ok (.iconst 1, 1) := dGR_16_c_462.1
theorem dX11_depth_119 : decode cX11_depth 119 = .ok (.if_icmp .ne 8, 3) := dGR_16_c_462.2.1
theorem dX11_depth_122 : decode cX11_depth 122 = .ok (.iload 6, 2) := dGR_16_c_462.2.2.1
theorem dX11_depth_124 : decode cX11_depth 124 = .ok (.goto 5, 3) := dGR_16_c_462.2.2.2.1
theorem dX11_depth_127 : decode cX11_depth 127 = .ok (.iload 7, 2) := dGR_16_c_462.2.2.2.2.1
theorem dX11_depth_129 : decode cX11_depth 129 = .ok (.invokevirtual 145, 3) := dGR_16_c_462.2.2.2.2.2.1
theorem dX11_depth_132 : decode cX11_depth 132 = .ok (.ireturn, 1) := dGR_16_c_462.2.2.2.2.2.2
set_option maxRecDepth 100000 in
theorem dGR_16_c_463 : (decode cX11_partner 0 = .ok (.aload_n 0, 1)) ∧ (decode cX11_partner 1 = .ok (.iload_n 3, 1)) ∧ (decode cX11_partner 2 = .ok (.ifCond .lt 12, 3)) ∧ (decode cX11_partner 5 = .ok (.iload_n 3, 1)) ∧ (decode cX11_partner 6 = .ok (.iload_n 2, 1)) ∧ (decode cX11_partner 7 = .ok (.if_icmp .ge 7, 3)) ∧ (decode cX11_partner 10 = .ok (.iconst 1, 1)) ∧ (decode cX11_partner 11 = .ok (.goto 4, 3)) ∧ (decode cX11_partner 14 = .ok (.iconst 0, 1)) ∧ (decode cX11_partner 15 = .ok (.iload_n 1, 1)) ∧ (decode cX11_partner 16 = .ok (.iload_n 2, 1)) ∧ (decode cX11_partner 17 = .ok (.invokevirtual 226, 3)) := by decide +kernel
theorem dX11_partner_0 : decode cX11_partner 0 = .ok (.aload_n 0, 1) := dGR_16_c_463.1
theorem dX11_partner_1 : decode cX11_partner 1 = .ok (.iload_n 3, 1) := dGR_16_c_463.2.1
theorem dX11_partner_2 : decode cX11_partner 2 = .ok (.ifCond .lt 12, 3) := dGR_16_c_463.2.2.1
theorem dX11_partner_5 : decode cX11_partner 5 = .ok (.iload_n 3, 1) := dGR_16_c_463.2.2.2.1
theorem dX11_partner_6 : decode cX11_partner 6 = .ok (.iload_n 2, 1) := dGR_16_c_463.2.2.2.2.1
theorem dX11_partner_7 : decode cX11_partner 7 = .ok (.if_icmp .ge 7, 3) := dGR_16_c_463.2.2.2.2.2.1
theorem dX11_partner_10 : decode cX11_partner 10 = .ok (.iconst 1, 1) := dGR_16_c_463.2.2.2.2.2.2.1
theorem dX11_partner_11 : decode cX11_partner 11 = .ok (.goto 4, 3) := dGR_16_c_463.2.2.2.2.2.2.2.1
theorem dX11_partner_14 : decode cX11_partner 14 = .ok (.iconst 0, 1) := dGR_16_c_463.2.2.2.2.2.2.2.2.1
theorem dX11_partner_15 : decode cX11_partner 15 = .ok (.iload_n 1, 1) := dGR_16_c_463.2.2.2.2.2.2.2.2.2.1
theorem dX11_partner_16 : decode cX11_partner 16 = .ok (.iload_n 2, 1) := dGR_16_c_463.2.2.2.2.2.2.2.2.2.2.1
theorem dX11_partner_17 : decode cX11_partner 17 = .ok (.invokevirtual 226, 3) := dGR_16_c_463.2.2.2.2.2.2.2.2.2.2.2
set_option maxRecDepth 100000 in
theorem dGR_16_c_464 : (decode cX11_partner 20 = .ok (.istore 4, 2)) ∧ (decode cX11_partner 22 = .ok (.iload 4, 2)) ∧ (decode cX11_partner 24 = .ok (.ifCond .eq 10, 3)) ∧ (decode cX11_partner 27 = .ok (.aload_n 0, 1)) ∧ (decode cX11_partner 28 = .ok (.iload 4, 2)) ∧ (decode cX11_partner 30 = .ok (.invokevirtual 110, 3)) ∧ (decode cX11_partner 33 = .ok (.ireturn, 1)) ∧ (decode cX11_partner 34 = .ok (.aload_n 0, 1)) ∧ (decode cX11_partner 35 = .ok (.iload_n 1, 1)) ∧ (decode cX11_partner 36 = .ok (.iload_n 2, 1)) ∧ (decode cX11_partner 37 = .ok (.iload_n 3, 1)) ∧ (decode cX11_partner 38 = .ok (.invokevirtual 264, 3)) := by decide +kernel
theorem dX11_partner_20 : decode cX11_partner 20 = .ok (.istore 4, 2) := dGR_16_c_464.1
theorem dX11_partner_22 : decode cX11_partner 22 = .ok (.iload 4, 2) := dGR_16_c_464.2.1
theorem dX11_partner_24 : decode cX11_partner 24 = .ok (.ifCond .eq 10, 3) := dGR_16_c_464.2.2.1
theorem dX11_partner_27 : decode cX11_partner 27 = .ok (.aload_n 0, 1) := dGR_16_c_464.2.2.2.1
theorem dX11_partner_28 : decode cX11_partner 28 = .ok (.iload 4, 2) := dGR_16_c_464.2.2.2.2.1
theorem dX11_partner_30 : decode cX11_partner 30 = .ok (.invokevirtual 110, 3) := dGR_16_c_464.2.2.2.2.2.1
theorem dX11_partner_33 : decode cX11_partner 33 = .ok (.ireturn, 1) := dGR_16_c_464.2.2.2.2.2.2.1
theorem dX11_partner_34 : decode cX11_partner 34 = .ok (.aload_n 0, 1) := dGR_16_c_464.2.2.2.2.2.2.2.1
theorem dX11_partner_35 : decode cX11_partner 35 = .ok (.iload_n 1, 1) := dGR_16_c_464.2.2.2.2.2.2.2.2.1
theorem dX11_partner_36 : decode cX11_partner 36 = .ok (.iload_n 2, 1) := dGR_16_c_464.2.2.2.2.2.2.2.2.2.1
theorem dX11_partner_37 : decode cX11_partner 37 = .ok (.iload_n 3, 1) := dGR_16_c_464.2.2.2.2.2.2.2.2.2.2.1
theorem dX11_partner_38 : decode cX11_partner 38 = .ok (.invokevirtual 264, 3) := dGR_16_c_464.2.2.2.2.2.2.2.2.2.2.2
set_option maxRecDepth 100000 in
theorem dGR_16_c_465 : (decode cX11_partner 41 = .ok (.istore 5, 2)) ∧ (decode cX11_partner 43 = .ok (.iload 5, 2)) ∧ (decode cX11_partner 45 = .ok (.iconst (-1), 1)) ∧ (decode cX11_partner 46 = .ok (.if_icmp .ne 12, 3)) ∧ (decode cX11_partner 49 = .ok (.aload_n 0, 1)) ∧ (decode cX11_partner 50 = .ok (.bipush 6, 2)) ∧ (decode cX11_partner 52 = .ok (.invokevirtual 110, 3)) ∧ (decode cX11_partner 55 = .ok (.goto 9, 3)) ∧ (decode cX11_partner 58 = .ok (.aload_n 0, 1)) ∧ (decode cX11_partner 59 = .ok (.iload 5, 2)) ∧ (decode cX11_partner 61 = .ok (.invokevirtual 145, 3)) ∧ (decode cX11_partner 64 = .ok (.ireturn, 1)) := by decide +kernel
theorem dX11_partner_41 : decode cX11_partner 41 = .ok (.istore 5, 2) := dGR_16_c_465.1
theorem dX11_partner_43 : decode cX11_partner 43 = .ok (.iload 5, 2) := dGR_16_c_465.2.1
theorem dX11_partner_45 : decode cX11_partner 45 = .ok (.iconst (-1), 1) := dGR_16_c_465.2.2.1
theorem dX11_partner_46 : decode cX11_partner 46 = .ok (.if_icmp .ne 12, 3) := dGR_16_c_465.2.2.2.1
theorem dX11_partner_49 : decode cX11_partner 49 = .ok (.aload_n 0, 1) := dGR_16_c_465.2.2.2.2.1
theorem dX11_partner_50 : decode cX11_partner 50 = .ok (.bipush 6, 2) := dGR_16_c_465.2.2.2.2.2.1
theorem dX11_partner_52 : decode cX11_partner 52 = .ok (.invokevirtual 110, 3) := dGR_16_c_465.2.2.2.2.2.2.1
theorem dX11_partner_55 : decode cX11_partner 55 = .ok (.goto 9, 3) := dGR_16_c_465.2.2.2.2.2.2.2.1
theorem dX11_partner_58 : decode cX11_partner 58 = .ok (.aload_n 0, 1) := dGR_16_c_465.2.2.2.2.2.2.2.2.1
theorem dX11_partner_59 : decode cX11_partner 59 = .ok (.iload 5, 2) := dGR_16_c_465.2.2.2.2.2.2.2.2.2.1
theorem dX11_partner_61 : decode cX11_partner 61 = .ok (.invokevirtual 145, 3) := dGR_16_c_465.2.2.2.2.2.2.2.2.2.2.1
theorem dX11_partner_64 : decode cX11_partner 64 = .ok (.ireturn, 1) := dGR_16_c_465.2.2.2.2.2.2.2.2.2.2.2
set_option maxRecDepth 100000 in
theorem dGR_16_c_466 : (decode cX11_table 0 = .ok (.aload_n 0, 1)) ∧ (decode cX11_table 1 = .ok (.getfield 26, 3)) ∧ (decode cX11_table 4 = .ok (.iload_n 1, 1)) ∧ (decode cX11_table 5 = .ok (.invokevirtual 163, 3)) ∧ (decode cX11_table 8 = .ok (.ifCond .ne 9, 3)) ∧ (decode cX11_table 11 = .ok (.aload_n 0, 1)) ∧ (decode cX11_table 12 = .ok (.iconst 1, 1)) ∧ (decode cX11_table 13 = .ok (.invokevirtual 110, 3)) ∧ (decode cX11_table 16 = .ok (.ireturn, 1)) ∧ (decode cX11_table 17 = .ok (.aload_n 0, 1)) ∧ (decode cX11_table 18 = .ok (.iload_n 1, 1)) ∧ (decode cX11_table 19 = .ok (.invokevirtual 268, 3)) := by decide +kernel
theorem dX11_table_0 : decode cX11_table 0 = .ok (.aload_n 0, 1) := dGR_16_c_466.1
theorem dX11_table_1 : decode cX11_table 1 = .ok (.getfield 26, 3) := dGR_16_c_466.2.1
theorem dX11_table_4 : decode cX11_table 4 = .ok (.iload_n 1, 1) := dGR_16_c_466.2.2.1
theorem dX11_table_5 : decode cX11_table 5 = .ok (.invokevirtual 163, 3) := dGR_16_c_466.2.2.2.1
theorem dX11_table_8 : decode cX11_table 8 = .ok (.ifCond .ne 9, 3) := dGR_16_c_466.2.2.2.2.1
theorem dX11_table_11 : decode cX11_table 11 = .ok (.aload_n 0, 1) := dGR_16_c_466.2.2.2.2.2.1
theorem dX11_table_12 : decode cX11_table 12 = .ok (.iconst 1, 1) := dGR_16_c_466.2.2.2.2.2.2.1
theorem dX11_table_13 : decode cX11_table 13 = .ok (.invokevirtual 110, 3) := dGR_16_c_466.2.2.2.2.2.2.2.1
theorem dX11_table_16 : decode cX11_table 16 = .ok (.ireturn, 1) := dGR_16_c_466.2.2.2.2.2.2.2.2.1
theorem dX11_table_17 : decode cX11_table 17 = .ok (.aload_n 0, 1) := dGR_16_c_466.2.2.2.2.2.2.2.2.2.1
theorem dX11_table_18 : decode cX11_table 18 = .ok (.iload_n 1, 1) := dGR_16_c_466.2.2.2.2.2.2.2.2.2.2.1
theorem dX11_table_19 : decode cX11_table 19 = .ok (.invokevirtual 268, 3) := dGR_16_c_466.2.2.2.2.2.2.2.2.2.2.2
set_option maxRecDepth 100000 in
theorem dGR_16_c_467 : (decode cX11_table 22 = .ok (.astore_n 2, 1)) ∧ (decode cX11_table 23 = .ok (.aload_n 2, 1)) ∧ (decode cX11_table 24 = .ok (.invokevirtual 272, 3)) ∧ (decode cX11_table 27 = .ok (.ifCond .eq 14, 3)) ∧ (decode cX11_table 30 = .ok (.aload_n 0, 1)) ∧ (decode cX11_table 31 = .ok (.aload_n 2, 1)) ∧ (decode cX11_table 32 = .ok (.getfield 275, 3)) ∧ (decode cX11_table 35 = .ok (.invokevirtual 145, 3)) ∧ (decode cX11_table 38 = .ok (.goto 9, 3)) ∧ (decode cX11_table 41 = .ok (.aload_n 0, 1)) ∧ (decode cX11_table 42 = .ok (.bipush 7, 2)) ∧ (decode cX11_table 44 = .ok (.invokevirtual 110, 3)) := by decide +kernel
theorem dX11_table_22 : decode cX11_table 22 = .ok (.astore_n 2, 1) := dGR_16_c_467.1
theorem dX11_table_23 : decode cX11_table 23 = .ok (.aload_n 2, 1) := dGR_16_c_467.2.1
theorem dX11_table_24 : decode cX11_table 24 = .ok (.invokevirtual 272, 3) := dGR_16_c_467.2.2.1
theorem dX11_table_27 : decode cX11_table 27 = .ok (.ifCond .eq 14, 3) := dGR_16_c_467.2.2.2.1
theorem dX11_table_30 : decode cX11_table 30 = .ok (.aload_n 0, 1) := dGR_16_c_467.2.2.2.2.1
theorem dX11_table_31 : decode cX11_table 31 = .ok (.aload_n 2, 1) := dGR_16_c_467.2.2.2.2.2.1
theorem dX11_table_32 : decode cX11_table 32 = .ok (.getfield 275, 3) := dGR_16_c_467.2.2.2.2.2.2.1
theorem dX11_table_35 : decode cX11_table 35 = .ok (.invokevirtual 145, 3) := dGR_16_c_467.2.2.2.2.2.2.2.1
theorem dX11_table_38 : decode cX11_table 38 = .ok (.goto 9, 3) := dGR_16_c_467.2.2.2.2.2.2.2.2.1
theorem dX11_table_41 : decode cX11_table 41 = .ok (.aload_n 0, 1) := dGR_16_c_467.2.2.2.2.2.2.2.2.2.1
theorem dX11_table_42 : decode cX11_table 42 = .ok (.bipush 7, 2) := dGR_16_c_467.2.2.2.2.2.2.2.2.2.2.1
theorem dX11_table_44 : decode cX11_table 44 = .ok (.invokevirtual 110, 3) := dGR_16_c_467.2.2.2.2.2.2.2.2.2.2.2
theorem dX11_table_47 : decode cX11_table 47 = .ok (.ireturn, 1) := by decide +kernel
set_option maxRecDepth 100000 in
theorem dGR_16_c_468 : (decode cX11_summary 0 = .ok (.aload_n 0, 1)) ∧ (decode cX11_summary 1 = .ok (.aload_n 0, 1)) ∧ (decode cX11_summary 2 = .ok (.getfield 26, 3)) ∧ (decode cX11_summary 5 = .ok (.iload_n 1, 1)) ∧ (decode cX11_summary 6 = .ok (.invokevirtual 163, 3)) ∧ (decode cX11_summary 9 = .ok (.ifCond .eq 16, 3)) ∧ (decode cX11_summary 12 = .ok (.iload_n 3, 1)) ∧ (decode cX11_summary 13 = .ok (.iconst 0, 1)) ∧ (decode cX11_summary 14 = .ok (.iconst 2, 1)) ∧ (decode cX11_summary 15 = .ok (.invokestatic 87, 3)) ∧ (decode cX11_summary 18 = .ok (.ifCond .eq 7, 3)) ∧ (decode cX11_summary 21 = .ok (.iconst 1, 1)) := by decide +kernel
theorem dX11_summary_0 : decode cX11_summary 0 = .ok (.aload_n 0, 1) := dGR_16_c_468.1
theorem dX11_summary_1 : decode cX11_summary 1 = .ok (.aload_n 0, 1) := dGR_16_c_468.2.1
theorem dX11_summary_2 : decode cX11_summary 2 = .ok (.getfield 26, 3) := dGR_16_c_468.2.2.1
theorem dX11_summary_5 : decode cX11_summary 5 = .ok (.iload_n 1, 1) := dGR_16_c_468.2.2.2.1
theorem dX11_summary_6 : decode cX11_summary 6 = .ok (.invokevirtual 163, 3) := dGR_16_c_468.2.2.2.2.1
theorem dX11_summary_9 : decode cX11_summary 9 = .ok (.ifCond .eq 16, 3) := dGR_16_c_468.2.2.2.2.2.1
theorem dX11_summary_12 : decode cX11_summary 12 = .ok (.iload_n 3, 1) := dGR_16_c_468.2.2.2.2.2.2.1
theorem dX11_summary_13 : decode cX11_summary 13 = .ok (.iconst 0, 1) := dGR_16_c_468.2.2.2.2.2.2.2.1
theorem dX11_summary_14 : decode cX11_summary 14 = .ok (.iconst 2, 1) := dGR_16_c_468.2.2.2.2.2.2.2.2.1
theorem dX11_summary_15 : decode cX11_summary 15 = .ok (.invokestatic 87, 3) := dGR_16_c_468.2.2.2.2.2.2.2.2.2.1
theorem dX11_summary_18 : decode cX11_summary 18 = .ok (.ifCond .eq 7, 3) := dGR_16_c_468.2.2.2.2.2.2.2.2.2.2.1
theorem dX11_summary_21 : decode cX11_summary 21 = .ok (.iconst 1, 1) := dGR_16_c_468.2.2.2.2.2.2.2.2.2.2.2
set_option maxRecDepth 100000 in
theorem dGR_16_c_469 : (decode cX11_summary 22 = .ok (.goto 4, 3)) ∧ (decode cX11_summary 25 = .ok (.iconst 0, 1)) ∧ (decode cX11_summary 26 = .ok (.iload_n 1, 1)) ∧ (decode cX11_summary 27 = .ok (.iload_n 2, 1)) ∧ (decode cX11_summary 28 = .ok (.invokevirtual 278, 3)) ∧ (decode cX11_summary 31 = .ok (.istore 4, 2)) ∧ (decode cX11_summary 33 = .ok (.iload 4, 2)) ∧ (decode cX11_summary 35 = .ok (.ifCond .eq 10, 3)) ∧ (decode cX11_summary 38 = .ok (.aload_n 0, 1)) ∧ (decode cX11_summary 39 = .ok (.iload 4, 2)) ∧ (decode cX11_summary 41 = .ok (.invokevirtual 110, 3)) ∧ (decode cX11_summary 44 = .ok (.ireturn, 1)) := by decide +kernel
theorem dX11_summary_22 : decode cX11_summary 22 = .ok (.goto 4, 3) := dGR_16_c_469.1
theorem dX11_summary_25 : decode cX11_summary 25 = .ok (.iconst 0, 1) := dGR_16_c_469.2.1
theorem dX11_summary_26 : decode cX11_summary 26 = .ok (.iload_n 1, 1) := dGR_16_c_469.2.2.1
theorem dX11_summary_27 : decode cX11_summary 27 = .ok (.iload_n 2, 1) := dGR_16_c_469.2.2.2.1
theorem dX11_summary_28 : decode cX11_summary 28 = .ok (.invokevirtual 278, 3) := dGR_16_c_469.2.2.2.2.1
theorem dX11_summary_31 : decode cX11_summary 31 = .ok (.istore 4, 2) := dGR_16_c_469.2.2.2.2.2.1
theorem dX11_summary_33 : decode cX11_summary 33 = .ok (.iload 4, 2) := dGR_16_c_469.2.2.2.2.2.2.1
theorem dX11_summary_35 : decode cX11_summary 35 = .ok (.ifCond .eq 10, 3) := dGR_16_c_469.2.2.2.2.2.2.2.1
theorem dX11_summary_38 : decode cX11_summary 38 = .ok (.aload_n 0, 1) := dGR_16_c_469.2.2.2.2.2.2.2.2.1
theorem dX11_summary_39 : decode cX11_summary 39 = .ok (.iload 4, 2) := dGR_16_c_469.2.2.2.2.2.2.2.2.2.1
theorem dX11_summary_41 : decode cX11_summary 41 = .ok (.invokevirtual 110, 3) := dGR_16_c_469.2.2.2.2.2.2.2.2.2.2.1
theorem dX11_summary_44 : decode cX11_summary 44 = .ok (.ireturn, 1) := dGR_16_c_469.2.2.2.2.2.2.2.2.2.2.2
set_option maxRecDepth 100000 in
theorem dGR_16_c_470 : (decode cX11_summary 45 = .ok (.aload_n 0, 1)) ∧ (decode cX11_summary 46 = .ok (.iload_n 1, 1)) ∧ (decode cX11_summary 47 = .ok (.invokevirtual 268, 3)) ∧ (decode cX11_summary 50 = .ok (.astore 5, 2)) ∧ (decode cX11_summary 52 = .ok (.iload_n 3, 1)) ∧ (decode cX11_summary 53 = .ok (.ifCond .ne 15, 3)) ∧ (decode cX11_summary 56 = .ok (.aload_n 0, 1)) ∧ (decode cX11_summary 57 = .ok (.aload 5, 2)) ∧ (decode cX11_summary 59 = .ok (.getfield 281, 3)) ∧ (decode cX11_summary 62 = .ok (.iload_n 2, 1)) ∧ (decode cX11_summary 63 = .ok (.iaload, 1)) ∧ (decode cX11_summary 64 = .ok (.invokevirtual 145, 3)) := by decide +kernel
theorem dX11_summary_45 : decode cX11_summary 45 = .ok (.aload_n 0, 1) := dGR_16_c_470.1
theorem dX11_summary_46 : decode cX11_summary 46 = .ok (.iload_n 1, 1) := dGR_16_c_470.2.1
theorem dX11_summary_47 : decode cX11_summary 47 = .ok (.invokevirtual 268, 3) := dGR_16_c_470.2.2.1
theorem dX11_summary_50 : decode cX11_summary 50 = .ok (.astore 5, 2) := dGR_16_c_470.2.2.2.1
theorem dX11_summary_52 : decode cX11_summary 52 = .ok (.iload_n 3, 1) := dGR_16_c_470.2.2.2.2.1
theorem dX11_summary_53 : decode cX11_summary 53 = .ok (.ifCond .ne 15, 3) := dGR_16_c_470.2.2.2.2.2.1
theorem dX11_summary_56 : decode cX11_summary 56 = .ok (.aload_n 0, 1) := dGR_16_c_470.2.2.2.2.2.2.1
theorem dX11_summary_57 : decode cX11_summary 57 = .ok (.aload 5, 2) := dGR_16_c_470.2.2.2.2.2.2.2.1
theorem dX11_summary_59 : decode cX11_summary 59 = .ok (.getfield 281, 3) := dGR_16_c_470.2.2.2.2.2.2.2.2.1
theorem dX11_summary_62 : decode cX11_summary 62 = .ok (.iload_n 2, 1) := dGR_16_c_470.2.2.2.2.2.2.2.2.2.1
theorem dX11_summary_63 : decode cX11_summary 63 = .ok (.iaload, 1) := dGR_16_c_470.2.2.2.2.2.2.2.2.2.2.1
theorem dX11_summary_64 : decode cX11_summary 64 = .ok (.invokevirtual 145, 3) := dGR_16_c_470.2.2.2.2.2.2.2.2.2.2.2
set_option maxRecDepth 100000 in
theorem dGR_16_c_471 : (decode cX11_summary 67 = .ok (.ireturn, 1)) ∧ (decode cX11_summary 68 = .ok (.iload_n 3, 1)) ∧ (decode cX11_summary 69 = .ok (.iconst 1, 1)) ∧ (decode cX11_summary 70 = .ok (.if_icmp .ne 15, 3)) ∧ (decode cX11_summary 73 = .ok (.aload_n 0, 1)) ∧ (decode cX11_summary 74 = .ok (.aload 5, 2)) ∧ (decode cX11_summary 76 = .ok (.getfield 283, 3)) ∧ (decode cX11_summary 79 = .ok (.iload_n 2, 1)) ∧ (decode cX11_summary 80 = .ok (.iaload, 1)) ∧ (decode cX11_summary 81 = .ok (.invokevirtual 145, 3)) ∧ (decode cX11_summary 84 = .ok (.ireturn, 1)) ∧ (decode cX11_summary 85 = .ok (.aload_n 0, 1)) := by decide +kernel
theorem dX11_summary_67 : decode cX11_summary 67 = .ok (.ireturn, 1) := dGR_16_c_471.1
theorem dX11_summary_68 : decode cX11_summary 68 = .ok (.iload_n 3, 1) := dGR_16_c_471.2.1
theorem dX11_summary_69 : decode cX11_summary 69 = .ok (.iconst 1, 1) := dGR_16_c_471.2.2.1
theorem dX11_summary_70 : decode cX11_summary 70 = .ok (.if_icmp .ne 15, 3) := dGR_16_c_471.2.2.2.1
theorem dX11_summary_73 : decode cX11_summary 73 = .ok (.aload_n 0, 1) := dGR_16_c_471.2.2.2.2.1
theorem dX11_summary_74 : decode cX11_summary 74 = .ok (.aload 5, 2) := dGR_16_c_471.2.2.2.2.2.1
theorem dX11_summary_76 : decode cX11_summary 76 = .ok (.getfield 283, 3) := dGR_16_c_471.2.2.2.2.2.2.1
theorem dX11_summary_79 : decode cX11_summary 79 = .ok (.iload_n 2, 1) := dGR_16_c_471.2.2.2.2.2.2.2.1
theorem dX11_summary_80 : decode cX11_summary 80 = .ok (.iaload, 1) := dGR_16_c_471.2.2.2.2.2.2.2.2.1
theorem dX11_summary_81 : decode cX11_summary 81 = .ok (.invokevirtual 145, 3) := dGR_16_c_471.2.2.2.2.2.2.2.2.2.1
theorem dX11_summary_84 : decode cX11_summary 84 = .ok (.ireturn, 1) := dGR_16_c_471.2.2.2.2.2.2.2.2.2.2.1
theorem dX11_summary_85 : decode cX11_summary 85 = .ok (.aload_n 0, 1) := dGR_16_c_471.2.2.2.2.2.2.2.2.2.2.2
set_option maxRecDepth 100000 in
theorem dGR_16_c_472 : (decode cX11_summary 86 = .ok (.aload 5, 2)) ∧ (decode cX11_summary 88 = .ok (.getfield 281, 3)) ∧ (decode cX11_summary 91 = .ok (.iload_n 2, 1)) ∧ (decode cX11_summary 92 = .ok (.iaload, 1)) ∧ (decode cX11_summary 93 = .ok (.aload_n 0, 1)) ∧ (decode cX11_summary 94 = .ok (.getfield 26, 3)) ∧ (decode cX11_summary 97 = .ok (.iload_n 1, 1)) ∧ (decode cX11_summary 98 = .ok (.invokevirtual 164, 3)) ∧ (decode cX11_summary 101 = .ok (.getfield 179, 3)) ∧ (decode cX11_summary 104 = .ok (.iand, 1)) ∧ (decode cX11_summary 105 = .ok (.ifCond .eq 7, 3)) ∧ (decode cX11_summary 108 = .ok (.iconst 1, 1)) := by decide +kernel
theorem dX11_summary_86 : decode cX11_summary 86 = .ok (.aload 5, 2) := dGR_16_c_472.1
theorem dX11_summary_88 : decode cX11_summary 88 = .ok (.getfield 281, 3) := dGR_16_c_472.2.1
theorem dX11_summary_91 : decode cX11_summary 91 = .ok (.iload_n 2, 1) := dGR_16_c_472.2.2.1
theorem dX11_summary_92 : decode cX11_summary 92 = .ok (.iaload, 1) := dGR_16_c_472.2.2.2.1
theorem dX11_summary_93 : decode cX11_summary 93 = .ok (.aload_n 0, 1) := dGR_16_c_472.2.2.2.2.1
theorem dX11_summary_94 : decode cX11_summary 94 = .ok (.getfield 26, 3) := dGR_16_c_472.2.2.2.2.2.1
theorem dX11_summary_97 : decode cX11_summary 97 = .ok (.iload_n 1, 1) := dGR_16_c_472.2.2.2.2.2.2.1
theorem dX11_summary_98 : decode cX11_summary 98 = .ok (.invokevirtual 164, 3) := dGR_16_c_472.2.2.2.2.2.2.2.1
theorem dX11_summary_101 : decode cX11_summary 101 = .ok (.getfield 179, 3) := dGR_16_c_472.2.2.2.2.2.2.2.2.1
theorem dX11_summary_104 : decode cX11_summary 104 = .ok (.iand, 1) := dGR_16_c_472.2.2.2.2.2.2.2.2.2.1
theorem dX11_summary_105 : decode cX11_summary 105 = .ok (.ifCond .eq 7, 3) := dGR_16_c_472.2.2.2.2.2.2.2.2.2.2.1
theorem dX11_summary_108 : decode cX11_summary 108 = .ok (.iconst 1, 1) := dGR_16_c_472.2.2.2.2.2.2.2.2.2.2.2
set_option maxRecDepth 100000 in
theorem dGR_16_c_473 : (decode cX11_summary 109 = .ok (.goto 4, 3)) ∧ (decode cX11_summary 112 = .ok (.iconst 0, 1)) ∧ (decode cX11_summary 113 = .ok (.invokevirtual 145, 3)) ∧ (decode cX11_summary 116 = .ok (.ireturn, 1)) := by decide +kernel
theorem dX11_summary_109 : decode cX11_summary 109 = .ok (.goto 4, 3) := dGR_16_c_473.1
theorem dX11_summary_112 : decode cX11_summary 112 = .ok (.iconst 0, 1) := dGR_16_c_473.2.1
theorem dX11_summary_113 : decode cX11_summary 113 = .ok (.invokevirtual 145, 3) := dGR_16_c_473.2.2.1
theorem dX11_summary_116 : decode cX11_summary 116 = .ok (.ireturn, 1) := dGR_16_c_473.2.2.2
set_option maxRecDepth 100000 in
theorem dGR_16_c_474 : (decode cX11_next 0 = .ok (.aload_n 0, 1)) ∧ (decode cX11_next 1 = .ok (.aload_n 0, 1)) ∧ (decode cX11_next 2 = .ok (.getfield 26, 3)) ∧ (decode cX11_next 5 = .ok (.iload_n 1, 1)) ∧ (decode cX11_next 6 = .ok (.invokevirtual 163, 3)) ∧ (decode cX11_next 9 = .ok (.ifCond .eq 18, 3)) ∧ (decode cX11_next 12 = .ok (.aload_n 0, 1)) ∧ (decode cX11_next 13 = .ok (.getfield 26, 3)) ∧ (decode cX11_next 16 = .ok (.iload_n 3, 1)) ∧ (decode cX11_next 17 = .ok (.invokevirtual 286, 3)) ∧ (decode cX11_next 20 = .ok (.ifCond .eq 7, 3)) ∧ (decode cX11_next 23 = .ok (.iconst 1, 1)) := by decide +kernel
theorem dX11_next_0 : decode cX11_next 0 = .ok (.aload_n 0, 1) := dGR_16_c_474.1
theorem dX11_next_1 : decode cX11_next 1 = .ok (.aload_n 0, 1) := dGR_16_c_474.2.1
theorem dX11_next_2 : decode cX11_next 2 = .ok (.getfield 26, 3) := dGR_16_c_474.2.2.1
theorem dX11_next_5 : decode cX11_next 5 = .ok (.iload_n 1, 1) := dGR_16_c_474.2.2.2.1
theorem dX11_next_6 : decode cX11_next 6 = .ok (.invokevirtual 163, 3) := dGR_16_c_474.2.2.2.2.1
theorem dX11_next_9 : decode cX11_next 9 = .ok (.ifCond .eq 18, 3) := dGR_16_c_474.2.2.2.2.2.1
theorem dX11_next_12 : decode cX11_next 12 = .ok (.aload_n 0, 1) := dGR_16_c_474.2.2.2.2.2.2.1
theorem dX11_next_13 : decode cX11_next 13 = .ok (.getfield 26, 3) := dGR_16_c_474.2.2.2.2.2.2.2.1
theorem dX11_next_16 : decode cX11_next 16 = .ok (.iload_n 3, 1) := dGR_16_c_474.2.2.2.2.2.2.2.2.1
theorem dX11_next_17 : decode cX11_next 17 = .ok (.invokevirtual 286, 3) := dGR_16_c_474.2.2.2.2.2.2.2.2.2.1
theorem dX11_next_20 : decode cX11_next 20 = .ok (.ifCond .eq 7, 3) := dGR_16_c_474.2.2.2.2.2.2.2.2.2.2.1
theorem dX11_next_23 : decode cX11_next 23 = .ok (.iconst 1, 1) := dGR_16_c_474.2.2.2.2.2.2.2.2.2.2.2
set_option maxRecDepth 100000 in
theorem dGR_16_c_475 : (decode cX11_next 24 = .ok (.goto 4, 3)) ∧ (decode cX11_next 27 = .ok (.iconst 0, 1)) ∧ (decode cX11_next 28 = .ok (.iload_n 1, 1)) ∧ (decode cX11_next 29 = .ok (.iload_n 2, 1)) ∧ (decode cX11_next 30 = .ok (.invokevirtual 278, 3)) ∧ (decode cX11_next 33 = .ok (.istore 4, 2)) ∧ (decode cX11_next 35 = .ok (.iload 4, 2)) ∧ (decode cX11_next 37 = .ok (.ifCond .eq 10, 3)) ∧ (decode cX11_next 40 = .ok (.aload_n 0, 1)) ∧ (decode cX11_next 41 = .ok (.iload 4, 2)) ∧ (decode cX11_next 43 = .ok (.invokevirtual 110, 3)) ∧ (decode cX11_next 46 = .ok (.ireturn, 1)) := by decide +kernel
theorem dX11_next_24 : decode cX11_next 24 = .ok (.goto 4, 3) := dGR_16_c_475.1
theorem dX11_next_27 : decode cX11_next 27 = .ok (.iconst 0, 1) := dGR_16_c_475.2.1
theorem dX11_next_28 : decode cX11_next 28 = .ok (.iload_n 1, 1) := dGR_16_c_475.2.2.1
theorem dX11_next_29 : decode cX11_next 29 = .ok (.iload_n 2, 1) := dGR_16_c_475.2.2.2.1
theorem dX11_next_30 : decode cX11_next 30 = .ok (.invokevirtual 278, 3) := dGR_16_c_475.2.2.2.2.1
theorem dX11_next_33 : decode cX11_next 33 = .ok (.istore 4, 2) := dGR_16_c_475.2.2.2.2.2.1
theorem dX11_next_35 : decode cX11_next 35 = .ok (.iload 4, 2) := dGR_16_c_475.2.2.2.2.2.2.1
theorem dX11_next_37 : decode cX11_next 37 = .ok (.ifCond .eq 10, 3) := dGR_16_c_475.2.2.2.2.2.2.2.1
theorem dX11_next_40 : decode cX11_next 40 = .ok (.aload_n 0, 1) := dGR_16_c_475.2.2.2.2.2.2.2.2.1
theorem dX11_next_41 : decode cX11_next 41 = .ok (.iload 4, 2) := dGR_16_c_475.2.2.2.2.2.2.2.2.2.1
theorem dX11_next_43 : decode cX11_next 43 = .ok (.invokevirtual 110, 3) := dGR_16_c_475.2.2.2.2.2.2.2.2.2.2.1
theorem dX11_next_46 : decode cX11_next 46 = .ok (.ireturn, 1) := dGR_16_c_475.2.2.2.2.2.2.2.2.2.2.2
set_option maxRecDepth 100000 in
theorem dGR_16_c_476 : (decode cX11_next 47 = .ok (.aload_n 0, 1)) ∧ (decode cX11_next 48 = .ok (.aload_n 0, 1)) ∧ (decode cX11_next 49 = .ok (.iload_n 1, 1)) ∧ (decode cX11_next 50 = .ok (.invokevirtual 268, 3)) ∧ (decode cX11_next 53 = .ok (.aload_n 0, 1)) ∧ (decode cX11_next 54 = .ok (.getfield 26, 3)) ∧ (decode cX11_next 57 = .ok (.aload_n 0, 1)) ∧ (decode cX11_next 58 = .ok (.getfield 26, 3)) ∧ (decode cX11_next 61 = .ok (.iload_n 1, 1)) ∧ (decode cX11_next 62 = .ok (.invokevirtual 164, 3)) ∧ (decode cX11_next 65 = .ok (.iload_n 2, 1)) ∧ (decode cX11_next 66 = .ok (.iload_n 3, 1)) := by decide +kernel
theorem dX11_next_47 : decode cX11_next 47 = .ok (.aload_n 0, 1) := dGR_16_c_476.1
theorem dX11_next_48 : decode cX11_next 48 = .ok (.aload_n 0, 1) := dGR_16_c_476.2.1
theorem dX11_next_49 : decode cX11_next 49 = .ok (.iload_n 1, 1) := dGR_16_c_476.2.2.1
theorem dX11_next_50 : decode cX11_next 50 = .ok (.invokevirtual 268, 3) := dGR_16_c_476.2.2.2.1
theorem dX11_next_53 : decode cX11_next 53 = .ok (.aload_n 0, 1) := dGR_16_c_476.2.2.2.2.1
theorem dX11_next_54 : decode cX11_next 54 = .ok (.getfield 26, 3) := dGR_16_c_476.2.2.2.2.2.1
theorem dX11_next_57 : decode cX11_next 57 = .ok (.aload_n 0, 1) := dGR_16_c_476.2.2.2.2.2.2.1
theorem dX11_next_58 : decode cX11_next 58 = .ok (.getfield 26, 3) := dGR_16_c_476.2.2.2.2.2.2.2.1
theorem dX11_next_61 : decode cX11_next 61 = .ok (.iload_n 1, 1) := dGR_16_c_476.2.2.2.2.2.2.2.2.1
theorem dX11_next_62 : decode cX11_next 62 = .ok (.invokevirtual 164, 3) := dGR_16_c_476.2.2.2.2.2.2.2.2.2.1
theorem dX11_next_65 : decode cX11_next 65 = .ok (.iload_n 2, 1) := dGR_16_c_476.2.2.2.2.2.2.2.2.2.2.1
theorem dX11_next_66 : decode cX11_next 66 = .ok (.iload_n 3, 1) := dGR_16_c_476.2.2.2.2.2.2.2.2.2.2.2
set_option maxRecDepth 100000 in
theorem dGR_16_c_477 : (decode cX11_next 67 = .ok (.invokevirtual 289, 3)) ∧ (decode cX11_next 70 = .ok (.invokevirtual 145, 3)) ∧ (decode cX11_next 73 = .ok (.ireturn, 1)) := by decide +kernel
theorem dX11_next_67 : decode cX11_next 67 = .ok (.invokevirtual 289, 3) := dGR_16_c_477.1
theorem dX11_next_70 : decode cX11_next 70 = .ok (.invokevirtual 145, 3) := dGR_16_c_477.2.1
theorem dX11_next_73 : decode cX11_next 73 = .ok (.ireturn, 1) := dGR_16_c_477.2.2
set_option maxRecDepth 100000 in
theorem dGR_16_c_478 : (decode cX11_well 0 = .ok (.aload_n 0, 1)) ∧ (decode cX11_well 1 = .ok (.iload_n 1, 1)) ∧ (decode cX11_well 2 = .ok (.iload_n 2, 1)) ∧ (decode cX11_well 3 = .ok (.invokevirtual 215, 3)) ∧ (decode cX11_well 6 = .ok (.ifCond .eq 12, 3)) ∧ (decode cX11_well 9 = .ok (.aload_n 0, 1)) ∧ (decode cX11_well 10 = .ok (.iload_n 1, 1)) ∧ (decode cX11_well 11 = .ok (.iload_n 3, 1)) ∧ (decode cX11_well 12 = .ok (.invokevirtual 215, 3)) ∧ (decode cX11_well 15 = .ok (.ifCond .ne 9, 3)) ∧ (decode cX11_well 18 = .ok (.aload_n 0, 1)) ∧ (decode cX11_well 19 = .ok (.iconst 1, 1)) := by decide +kernel
theorem dX11_well_0 : decode cX11_well 0 = .ok (.aload_n 0, 1) := dGR_16_c_478.1
theorem dX11_well_1 : decode cX11_well 1 = .ok (.iload_n 1, 1) := dGR_16_c_478.2.1
theorem dX11_well_2 : decode cX11_well 2 = .ok (.iload_n 2, 1) := dGR_16_c_478.2.2.1
theorem dX11_well_3 : decode cX11_well 3 = .ok (.invokevirtual 215, 3) := dGR_16_c_478.2.2.2.1
theorem dX11_well_6 : decode cX11_well 6 = .ok (.ifCond .eq 12, 3) := dGR_16_c_478.2.2.2.2.1
theorem dX11_well_9 : decode cX11_well 9 = .ok (.aload_n 0, 1) := dGR_16_c_478.2.2.2.2.2.1
theorem dX11_well_10 : decode cX11_well 10 = .ok (.iload_n 1, 1) := dGR_16_c_478.2.2.2.2.2.2.1
theorem dX11_well_11 : decode cX11_well 11 = .ok (.iload_n 3, 1) := dGR_16_c_478.2.2.2.2.2.2.2.1
theorem dX11_well_12 : decode cX11_well 12 = .ok (.invokevirtual 215, 3) := dGR_16_c_478.2.2.2.2.2.2.2.2.1
theorem dX11_well_15 : decode cX11_well 15 = .ok (.ifCond .ne 9, 3) := dGR_16_c_478.2.2.2.2.2.2.2.2.2.1
theorem dX11_well_18 : decode cX11_well 18 = .ok (.aload_n 0, 1) := dGR_16_c_478.2.2.2.2.2.2.2.2.2.2.1
theorem dX11_well_19 : decode cX11_well 19 = .ok (.iconst 1, 1) := dGR_16_c_478.2.2.2.2.2.2.2.2.2.2.2
set_option maxRecDepth 100000 in
theorem dGR_16_c_479 : (decode cX11_well 20 = .ok (.invokevirtual 110, 3)) ∧ (decode cX11_well 23 = .ok (.ireturn, 1)) ∧ (decode cX11_well 24 = .ok (.aload_n 0, 1)) ∧ (decode cX11_well 25 = .ok (.getfield 47, 3)) ∧ (decode cX11_well 28 = .ok (.aload_n 0, 1)) ∧ (decode cX11_well 29 = .ok (.getfield 26, 3)) ∧ (decode cX11_well 32 = .ok (.aload_n 0, 1)) ∧ (decode cX11_well 33 = .ok (.getfield 26, 3)) ∧ (decode cX11_well 36 = .ok (.iload_n 1, 1)) ∧ (decode cX11_well 37 = .ok (.invokevirtual 164, 3)) ∧ (decode cX11_well 40 = .ok (.iload_n 2, 1)) ∧ (decode cX11_well 41 = .ok (.iload_n 3, 1)) := by decide +kernel
theorem dX11_well_20 : decode cX11_well 20 = .ok (.invokevirtual 110, 3) := dGR_16_c_479.1
theorem dX11_well_23 : decode cX11_well 23 = .ok (.ireturn, 1) := dGR_16_c_479.2.1
theorem dX11_well_24 : decode cX11_well 24 = .ok (.aload_n 0, 1) := dGR_16_c_479.2.2.1
theorem dX11_well_25 : decode cX11_well 25 = .ok (.getfield 47, 3) := dGR_16_c_479.2.2.2.1
theorem dX11_well_28 : decode cX11_well 28 = .ok (.aload_n 0, 1) := dGR_16_c_479.2.2.2.2.1
theorem dX11_well_29 : decode cX11_well 29 = .ok (.getfield 26, 3) := dGR_16_c_479.2.2.2.2.2.1
theorem dX11_well_32 : decode cX11_well 32 = .ok (.aload_n 0, 1) := dGR_16_c_479.2.2.2.2.2.2.1
theorem dX11_well_33 : decode cX11_well 33 = .ok (.getfield 26, 3) := dGR_16_c_479.2.2.2.2.2.2.2.1
theorem dX11_well_36 : decode cX11_well 36 = .ok (.iload_n 1, 1) := dGR_16_c_479.2.2.2.2.2.2.2.2.1
theorem dX11_well_37 : decode cX11_well 37 = .ok (.invokevirtual 164, 3) := dGR_16_c_479.2.2.2.2.2.2.2.2.2.1
theorem dX11_well_40 : decode cX11_well 40 = .ok (.iload_n 2, 1) := dGR_16_c_479.2.2.2.2.2.2.2.2.2.2.1
theorem dX11_well_41 : decode cX11_well 41 = .ok (.iload_n 3, 1) := dGR_16_c_479.2.2.2.2.2.2.2.2.2.2.2
set_option maxRecDepth 100000 in
theorem dGR_16_c_480 : (decode cX11_well 42 = .ok (.invokevirtual 306, 3)) ∧ (decode cX11_well 45 = .ok (.istore 4, 2)) ∧ (decode cX11_well 47 = .ok (.iload 4, 2)) ∧ (decode cX11_well 49 = .ok (.iconst (-1), 1)) ∧ (decode cX11_well 50 = .ok (.if_icmp .ne 12, 3)) ∧ (decode cX11_well 53 = .ok (.aload_n 0, 1)) ∧ (decode cX11_well 54 = .ok (.bipush 6, 2)) ∧ (decode cX11_well 56 = .ok (.invokevirtual 110, 3)) ∧ (decode cX11_well 59 = .ok (.goto 9, 3)) ∧ (decode cX11_well 62 = .ok (.aload_n 0, 1)) ∧ (decode cX11_well 63 = .ok (.iload 4, 2)) ∧ (decode cX11_well 65 = .ok (.invokevirtual 145, 3)) := by decide +kernel
theorem dX11_well_42 : decode cX11_well 42 = .ok (.invokevirtual 306, 3) := dGR_16_c_480.1
theorem dX11_well_45 : decode cX11_well 45 = .ok (.istore 4, 2) := dGR_16_c_480.2.1
theorem dX11_well_47 : decode cX11_well 47 = .ok (.iload 4, 2) := dGR_16_c_480.2.2.1
theorem dX11_well_49 : decode cX11_well 49 = .ok (.iconst (-1), 1) := dGR_16_c_480.2.2.2.1
theorem dX11_well_50 : decode cX11_well 50 = .ok (.if_icmp .ne 12, 3) := dGR_16_c_480.2.2.2.2.1
theorem dX11_well_53 : decode cX11_well 53 = .ok (.aload_n 0, 1) := dGR_16_c_480.2.2.2.2.2.1
theorem dX11_well_54 : decode cX11_well 54 = .ok (.bipush 6, 2) := dGR_16_c_480.2.2.2.2.2.2.1
theorem dX11_well_56 : decode cX11_well 56 = .ok (.invokevirtual 110, 3) := dGR_16_c_480.2.2.2.2.2.2.2.1
theorem dX11_well_59 : decode cX11_well 59 = .ok (.goto 9, 3) := dGR_16_c_480.2.2.2.2.2.2.2.2.1
theorem dX11_well_62 : decode cX11_well 62 = .ok (.aload_n 0, 1) := dGR_16_c_480.2.2.2.2.2.2.2.2.2.1
theorem dX11_well_63 : decode cX11_well 63 = .ok (.iload 4, 2) := dGR_16_c_480.2.2.2.2.2.2.2.2.2.2.1
theorem dX11_well_65 : decode cX11_well 65 = .ok (.invokevirtual 145, 3) := dGR_16_c_480.2.2.2.2.2.2.2.2.2.2.2
theorem dX11_well_68 : decode cX11_well 68 = .ok (.ireturn, 1) := by decide +kernel
abbrev f_c_X11_well : List (Nat × Int) := [(26, 0), (27, -1), (28, -1), (29, -1), (30, -1), (31, 0), (35, -1), (36, 0), (37, -1), (38, -1), (39, -1), (40, -1), (41, 3), (41, 4), (41, 5), (41, 7), (41, 8), (41, 9), (41, 13), (44, -1), (45, -1), (46, -1), (62, 0)]
set_option maxHeartbeats 4000000 in
set_option maxRecDepth 100000 in
theorem c_X11_well (G : KG) (l : Launch) (M : Mem) (c0 : Int) (a1 : Int) (a2 : Int) (a3 : Int) (hI_M : Inv false M) (hk_c0 : kd c0 = 62) (hpre : -2147483648 ≤ a1 ∧ a1 ≤ 2147483647 ∧ -2147483648 ≤ a2 ∧ a2 ≤ 2147483647 ∧ -2147483648 ≤ a3 ∧ a3 ≤ 2147483647) (hX_M : XX M) : KC false G l yX11_well cX11_well 5 (some .int) (7, 171) [vR G c0, vI a1, vI a2, vI a3] M (fun A => kQi false G A (fun (r : Int) (N : Mem) => Inv false N ∧ Fr f_c_X11_well M N ∧ (r ≥ -1 ∧ r ≤ 1000000000) ∧ XX N)) := by
  refine kx_met (lo := [some (vR G c0), some (vI a1), some (vI a2), some (vI a3), none]) (by decide) (Nat.le_of_ble_eq_true rfl) rfl ?_
  intro X F hQ
  have hF_M : Fr f_c_X11_well M M := Fr.rf _ _
  refine kx_aload_n 1 F 0 dX11_well_0 rfl rfl rfl ?_
  refine kx_iload_n 2 F 1 dX11_well_1 rfl rfl rfl ?_
  refine kx_iload_n 3 F 2 dX11_well_2 rfl rfl rfl ?_
  refine kx_Vi 6 (ci := 0) F (As := [vI a1, vI a2]) (st := []) vd_X11_215 (c_X11_hasState G l M c0 a1 a2 hI_M hk_c0 (by omega)) hk_c0 rfl rfl rfl ⟨by decide, by decide⟩ rfl rfl (Nat.le_of_ble_eq_true rfl) dX11_well_3 rfl ?_
  intro r_1 N_2 q_3
  obtain ⟨rfl, q_3c⟩ := q_3
  rcases q_3c with q_3c | q_3c
  · refine kx_if_eq 9 F 18 dX11_well_6 (by decide) rfl (by omega) (fun h_4 => (by exfalso; omega)) (fun h_4 => ?_)
    refine kx_aload_n 10 F 0 dX11_well_9 rfl rfl rfl ?_
    refine kx_iload_n 11 F 1 dX11_well_10 rfl rfl rfl ?_
    refine kx_iload_n 12 F 3 dX11_well_11 rfl rfl rfl ?_
    refine kx_Vi 15 (ci := 0) F (As := [vI a1, vI a3]) (st := []) vd_X11_215 (c_X11_hasState G l M c0 a1 a3 hI_M hk_c0 (by omega)) hk_c0 rfl rfl rfl ⟨by decide, by decide⟩ rfl rfl (Nat.le_of_ble_eq_true rfl) dX11_well_12 rfl ?_
    intro r_5 N_6 q_7
    obtain ⟨rfl, q_7c⟩ := q_7
    rcases q_7c with q_7c | q_7c
    · refine kx_if_ne 18 F 24 dX11_well_15 (by decide) rfl (by omega) (fun h_8 => ?_) (fun h_8 => (by exfalso; omega))
      refine kx_aload_n 25 F 0 dX11_well_24 rfl rfl rfl ?_
      refine kx_getr 28 F fl_X11_47 hk_c0 rfl rfl (j := 10) rfl dX11_well_25 (v := (M c0 10)) rfl rfl ?_
      have hk_9 : kd (M c0 10) = 41 := Inv.r hI_M hk_c0 rfl 10 rfl rfl
      refine kx_aload_n 29 F 0 dX11_well_28 rfl rfl rfl ?_
      refine kx_getr 32 F fl_X11_26 hk_c0 rfl rfl (j := 5) rfl dX11_well_29 (v := (M c0 5)) rfl rfl ?_
      have hk_10 : kd (M c0 5) = 12 := Inv.r hI_M hk_c0 rfl 5 rfl rfl
      refine kx_aload_n 33 F 0 dX11_well_32 rfl rfl rfl ?_
      refine kx_getr 36 F fl_X11_26 hk_c0 rfl rfl (j := 5) rfl dX11_well_33 (v := (M c0 5)) rfl rfl ?_
      refine kx_iload_n 37 F 1 dX11_well_36 rfl rfl rfl ?_
      refine kx_Vr 40 (ci := 0) F (As := [vI a1]) (st := [vR G (M c0 5), vR G (M c0 10)]) vd_X11_164 (c_X5_pick G l M (M c0 5) a1 hI_M hk_10 (by omega)) hk_10 rfl rfl rfl ⟨by decide, by decide⟩ rfl rfl (Nat.le_of_ble_eq_true rfl) dX11_well_37 rfl ?_
      intro r_11 N_12 q_13
      obtain ⟨rfl, hk_14⟩ := q_13
      refine kx_iload_n 41 F 2 dX11_well_40 rfl rfl rfl ?_
      refine kx_iload_n 42 F 3 dX11_well_41 rfl rfl rfl ?_
      refine kx_Vi 45 (ci := 0) F (As := [vR G (M c0 5), vR G r_11, vI a2, vI a3]) (st := []) vd_X11_306 (c_X4_wellLength G l M (M c0 10) (M c0 5) r_11 a2 a3 hI_M hk_9 hk_10 hk_14 (by omega) hX_M) hk_9 rfl rfl rfl ⟨by decide, by decide⟩ rfl rfl (Nat.le_of_ble_eq_true rfl) dX11_well_42 rfl ?_
      intro r_15 N_16 q_17
      obtain ⟨hI_N_16, hG_N_16, q_17c, hX_N_16⟩ := q_17
      have hF_N_16 : Fr f_c_X11_well M N_16 := Fr.c hF_M hG_N_16 rfl
      refine kx_istore 47 F 4 (lo' := [some (vR G c0), some (vI a1), some (vI a2), some (vI a3), some (vI r_15)]) dX11_well_45 (by decide) rfl rfl rfl ?_
      refine kx_iload 49 F 4 dX11_well_47 rfl rfl ?_
      refine kx_iconst 50 F dX11_well_49 rfl ?_
      refine kx_icmp_ne 53 F 62 dX11_well_50 (by decide) rfl (by omega) (by decide) (fun h_18 => ?_) (fun h_18 => ?_)
      · refine kx_aload_n 63 F 0 dX11_well_62 rfl rfl rfl ?_
        refine kx_iload 65 F 4 dX11_well_63 rfl rfl ?_
        refine kx_Vi 68 (ci := 0) F (As := [vI r_15]) (st := []) vd_X11_145 (c_X11_answer G l N_16 c0 r_15 hI_N_16 hk_c0 (by omega)) hk_c0 rfl rfl rfl ⟨by decide, by decide⟩ rfl rfl (Nat.le_of_ble_eq_true rfl) dX11_well_65 rfl ?_
        intro r_19 N_20 q_21
        obtain ⟨hI_N_20, hG_N_20, q_21c⟩ := q_21
        have hF_N_20 : Fr f_c_X11_well M N_20 := Fr.c hF_N_16 hG_N_20 rfl
        have hX_N_20 : XX N_20 := XX.fr hX_N_16 hI_N_16 hG_N_20 rfl
        exact kx_iret F hQ ⟨hI_N_20, hF_N_20, (by omega), hX_N_20⟩ dX11_well_68
      · refine kx_aload_n 54 F 0 dX11_well_53 rfl rfl rfl ?_
        refine kx_bipush 56 F dX11_well_54 (by decide) rfl ?_
        refine kx_Vi 59 (ci := 0) F (As := [vI 6]) (st := []) vd_X11_110 (c_X11_refuse G l N_16 c0 6 hI_N_16 hk_c0 (by omega)) hk_c0 rfl rfl rfl ⟨by decide, by decide⟩ rfl rfl (Nat.le_of_ble_eq_true rfl) dX11_well_56 rfl ?_
        intro r_22 N_23 q_24
        obtain ⟨hI_N_23, hG_N_23, q_24c⟩ := q_24
        have hF_N_23 : Fr f_c_X11_well M N_23 := Fr.c hF_N_16 hG_N_23 rfl
        have hX_N_23 : XX N_23 := XX.fr hX_N_16 hI_N_16 hG_N_23 rfl
        subst q_24c
        refine kx_goto 68 F dX11_well_59 (by decide) ?_
        exact kx_iret F hQ ⟨hI_N_23, hF_N_23, (by omega), hX_N_23⟩ dX11_well_68
    · refine kx_if_ne 18 F 24 dX11_well_15 (by decide) rfl (by omega) (fun h_25 => (by exfalso; omega)) (fun h_25 => ?_)
      refine kx_aload_n 19 F 0 dX11_well_18 rfl rfl rfl ?_
      refine kx_iconst 20 F dX11_well_19 rfl ?_
      refine kx_Vi 23 (ci := 0) F (As := [vI 1]) (st := []) vd_X11_110 (c_X11_refuse G l M c0 1 hI_M hk_c0 (by omega)) hk_c0 rfl rfl rfl ⟨by decide, by decide⟩ rfl rfl (Nat.le_of_ble_eq_true rfl) dX11_well_20 rfl ?_
      intro r_26 N_27 q_28
      obtain ⟨hI_N_27, hG_N_27, q_28c⟩ := q_28
      have hF_N_27 : Fr f_c_X11_well M N_27 := Fr.c hF_M hG_N_27 rfl
      have hX_N_27 : XX N_27 := XX.fr hX_M hI_M hG_N_27 rfl
      subst q_28c
      exact kx_iret F hQ ⟨hI_N_27, hF_N_27, (by omega), hX_N_27⟩ dX11_well_23
  · refine kx_if_eq 9 F 18 dX11_well_6 (by decide) rfl (by omega) (fun h_29 => ?_) (fun h_29 => (by exfalso; omega))
    refine kx_aload_n 19 F 0 dX11_well_18 rfl rfl rfl ?_
    refine kx_iconst 20 F dX11_well_19 rfl ?_
    refine kx_Vi 23 (ci := 0) F (As := [vI 1]) (st := []) vd_X11_110 (c_X11_refuse G l M c0 1 hI_M hk_c0 (by omega)) hk_c0 rfl rfl rfl ⟨by decide, by decide⟩ rfl rfl (Nat.le_of_ble_eq_true rfl) dX11_well_20 rfl ?_
    intro r_30 N_31 q_32
    obtain ⟨hI_N_31, hG_N_31, q_32c⟩ := q_32
    have hF_N_31 : Fr f_c_X11_well M N_31 := Fr.c hF_M hG_N_31 rfl
    have hX_N_31 : XX N_31 := XX.fr hX_M hI_M hG_N_31 rfl
    subst q_32c
    exact kx_iret F hQ ⟨hI_N_31, hF_N_31, (by omega), hX_N_31⟩ dX11_well_23
set_option maxRecDepth 100000 in
theorem dGR_16_c_481 : (decode cX11_nextBack 0 = .ok (.aload_n 0, 1)) ∧ (decode cX11_nextBack 1 = .ok (.getfield 26, 3)) ∧ (decode cX11_nextBack 4 = .ok (.iload_n 1, 1)) ∧ (decode cX11_nextBack 5 = .ok (.invokevirtual 163, 3)) ∧ (decode cX11_nextBack 8 = .ok (.ifCond .eq 31, 3)) ∧ (decode cX11_nextBack 11 = .ok (.aload_n 0, 1)) ∧ (decode cX11_nextBack 12 = .ok (.getfield 26, 3)) ∧ (decode cX11_nextBack 15 = .ok (.iload_n 3, 1)) ∧ (decode cX11_nextBack 16 = .ok (.invokevirtual 242, 3)) ∧ (decode cX11_nextBack 19 = .ok (.iconst 1, 1)) ∧ (decode cX11_nextBack 20 = .ok (.if_icmp .ne 19, 3)) ∧ (decode cX11_nextBack 23 = .ok (.aload_n 0, 1)) := by decide +kernel
theorem dX11_nextBack_0 : decode cX11_nextBack 0 = .ok (.aload_n 0, 1) := dGR_16_c_481.1
theorem dX11_nextBack_1 : decode cX11_nextBack 1 = .ok (.getfield 26, 3) := dGR_16_c_481.2.1
theorem dX11_nextBack_4 : decode cX11_nextBack 4 = .ok (.iload_n 1, 1) := dGR_16_c_481.2.2.1
theorem dX11_nextBack_5 : decode cX11_nextBack 5 = .ok (.invokevirtual 163, 3) := dGR_16_c_481.2.2.2.1
theorem dX11_nextBack_8 : decode cX11_nextBack 8 = .ok (.ifCond .eq 31, 3) := dGR_16_c_481.2.2.2.2.1
theorem dX11_nextBack_11 : decode cX11_nextBack 11 = .ok (.aload_n 0, 1) := dGR_16_c_481.2.2.2.2.2.1
theorem dX11_nextBack_12 : decode cX11_nextBack 12 = .ok (.getfield 26, 3) := dGR_16_c_481.2.2.2.2.2.2.1
theorem dX11_nextBack_15 : decode cX11_nextBack 15 = .ok (.iload_n 3, 1) := dGR_16_c_481.2.2.2.2.2.2.2.1
theorem dX11_nextBack_16 : decode cX11_nextBack 16 = .ok (.invokevirtual 242, 3) := dGR_16_c_481.2.2.2.2.2.2.2.2.1
theorem dX11_nextBack_19 : decode cX11_nextBack 19 = .ok (.iconst 1, 1) := dGR_16_c_481.2.2.2.2.2.2.2.2.2.1
theorem dX11_nextBack_20 : decode cX11_nextBack 20 = .ok (.if_icmp .ne 19, 3) := dGR_16_c_481.2.2.2.2.2.2.2.2.2.2.1
theorem dX11_nextBack_23 : decode cX11_nextBack 23 = .ok (.aload_n 0, 1) := dGR_16_c_481.2.2.2.2.2.2.2.2.2.2.2
set_option maxRecDepth 100000 in
theorem dGR_16_c_482 : (decode cX11_nextBack 24 = .ok (.getfield 26, 3)) ∧ (decode cX11_nextBack 27 = .ok (.iload 5, 2)) ∧ (decode cX11_nextBack 29 = .ok (.invokevirtual 242, 3)) ∧ (decode cX11_nextBack 32 = .ok (.ifCond .ne 7, 3)) ∧ (decode cX11_nextBack 35 = .ok (.iconst 1, 1)) ∧ (decode cX11_nextBack 36 = .ok (.goto 4, 3)) ∧ (decode cX11_nextBack 39 = .ok (.iconst 0, 1)) ∧ (decode cX11_nextBack 40 = .ok (.istore 6, 2)) ∧ (decode cX11_nextBack 42 = .ok (.aload_n 0, 1)) ∧ (decode cX11_nextBack 43 = .ok (.iload 6, 2)) ∧ (decode cX11_nextBack 45 = .ok (.iload_n 1, 1)) ∧ (decode cX11_nextBack 46 = .ok (.iload_n 2, 1)) := by decide +kernel
theorem dX11_nextBack_24 : decode cX11_nextBack 24 = .ok (.getfield 26, 3) := dGR_16_c_482.1
theorem dX11_nextBack_27 : decode cX11_nextBack 27 = .ok (.iload 5, 2) := dGR_16_c_482.2.1
theorem dX11_nextBack_29 : decode cX11_nextBack 29 = .ok (.invokevirtual 242, 3) := dGR_16_c_482.2.2.1
theorem dX11_nextBack_32 : decode cX11_nextBack 32 = .ok (.ifCond .ne 7, 3) := dGR_16_c_482.2.2.2.1
theorem dX11_nextBack_35 : decode cX11_nextBack 35 = .ok (.iconst 1, 1) := dGR_16_c_482.2.2.2.2.1
theorem dX11_nextBack_36 : decode cX11_nextBack 36 = .ok (.goto 4, 3) := dGR_16_c_482.2.2.2.2.2.1
theorem dX11_nextBack_39 : decode cX11_nextBack 39 = .ok (.iconst 0, 1) := dGR_16_c_482.2.2.2.2.2.2.1
theorem dX11_nextBack_40 : decode cX11_nextBack 40 = .ok (.istore 6, 2) := dGR_16_c_482.2.2.2.2.2.2.2.1
theorem dX11_nextBack_42 : decode cX11_nextBack 42 = .ok (.aload_n 0, 1) := dGR_16_c_482.2.2.2.2.2.2.2.2.1
theorem dX11_nextBack_43 : decode cX11_nextBack 43 = .ok (.iload 6, 2) := dGR_16_c_482.2.2.2.2.2.2.2.2.2.1
theorem dX11_nextBack_45 : decode cX11_nextBack 45 = .ok (.iload_n 1, 1) := dGR_16_c_482.2.2.2.2.2.2.2.2.2.2.1
theorem dX11_nextBack_46 : decode cX11_nextBack 46 = .ok (.iload_n 2, 1) := dGR_16_c_482.2.2.2.2.2.2.2.2.2.2.2
set_option maxRecDepth 100000 in
theorem dGR_16_c_483 : (decode cX11_nextBack 47 = .ok (.invokevirtual 278, 3)) ∧ (decode cX11_nextBack 50 = .ok (.istore 7, 2)) ∧ (decode cX11_nextBack 52 = .ok (.iload 7, 2)) ∧ (decode cX11_nextBack 54 = .ok (.ifCond .ne 13, 3)) ∧ (decode cX11_nextBack 57 = .ok (.aload_n 0, 1)) ∧ (decode cX11_nextBack 58 = .ok (.iconst 1, 1)) ∧ (decode cX11_nextBack 59 = .ok (.iload_n 1, 1)) ∧ (decode cX11_nextBack 60 = .ok (.iload 4, 2)) ∧ (decode cX11_nextBack 62 = .ok (.invokevirtual 278, 3)) ∧ (decode cX11_nextBack 65 = .ok (.istore 7, 2)) ∧ (decode cX11_nextBack 67 = .ok (.iload 7, 2)) ∧ (decode cX11_nextBack 69 = .ok (.ifCond .eq 10, 3)) := by decide +kernel
theorem dX11_nextBack_47 : decode cX11_nextBack 47 = .ok (.invokevirtual 278, 3) := dGR_16_c_483.1
theorem dX11_nextBack_50 : decode cX11_nextBack 50 = .ok (.istore 7, 2) := dGR_16_c_483.2.1
theorem dX11_nextBack_52 : decode cX11_nextBack 52 = .ok (.iload 7, 2) := dGR_16_c_483.2.2.1
theorem dX11_nextBack_54 : decode cX11_nextBack 54 = .ok (.ifCond .ne 13, 3) := dGR_16_c_483.2.2.2.1
theorem dX11_nextBack_57 : decode cX11_nextBack 57 = .ok (.aload_n 0, 1) := dGR_16_c_483.2.2.2.2.1
theorem dX11_nextBack_58 : decode cX11_nextBack 58 = .ok (.iconst 1, 1) := dGR_16_c_483.2.2.2.2.2.1
theorem dX11_nextBack_59 : decode cX11_nextBack 59 = .ok (.iload_n 1, 1) := dGR_16_c_483.2.2.2.2.2.2.1
theorem dX11_nextBack_60 : decode cX11_nextBack 60 = .ok (.iload 4, 2) := dGR_16_c_483.2.2.2.2.2.2.2.1
theorem dX11_nextBack_62 : decode cX11_nextBack 62 = .ok (.invokevirtual 278, 3) := dGR_16_c_483.2.2.2.2.2.2.2.2.1
theorem dX11_nextBack_65 : decode cX11_nextBack 65 = .ok (.istore 7, 2) := dGR_16_c_483.2.2.2.2.2.2.2.2.2.1
theorem dX11_nextBack_67 : decode cX11_nextBack 67 = .ok (.iload 7, 2) := dGR_16_c_483.2.2.2.2.2.2.2.2.2.2.1
theorem dX11_nextBack_69 : decode cX11_nextBack 69 = .ok (.ifCond .eq 10, 3) := dGR_16_c_483.2.2.2.2.2.2.2.2.2.2.2
set_option maxRecDepth 100000 in
theorem dGR_16_c_484 : (decode cX11_nextBack 72 = .ok (.aload_n 0, 1)) ∧ (decode cX11_nextBack 73 = .ok (.iload 7, 2)) ∧ (decode cX11_nextBack 75 = .ok (.invokevirtual 110, 3)) ∧ (decode cX11_nextBack 78 = .ok (.ireturn, 1)) ∧ (decode cX11_nextBack 79 = .ok (.aload_n 0, 1)) ∧ (decode cX11_nextBack 80 = .ok (.iload_n 1, 1)) ∧ (decode cX11_nextBack 81 = .ok (.invokevirtual 268, 3)) ∧ (decode cX11_nextBack 84 = .ok (.astore 8, 2)) ∧ (decode cX11_nextBack 86 = .ok (.aload_n 0, 1)) ∧ (decode cX11_nextBack 87 = .ok (.getfield 26, 3)) ∧ (decode cX11_nextBack 90 = .ok (.iload_n 1, 1)) ∧ (decode cX11_nextBack 91 = .ok (.invokevirtual 164, 3)) := by decide +kernel
theorem dX11_nextBack_72 : decode cX11_nextBack 72 = .ok (.aload_n 0, 1) := dGR_16_c_484.1
theorem dX11_nextBack_73 : decode cX11_nextBack 73 = .ok (.iload 7, 2) := dGR_16_c_484.2.1
theorem dX11_nextBack_75 : decode cX11_nextBack 75 = .ok (.invokevirtual 110, 3) := dGR_16_c_484.2.2.1
theorem dX11_nextBack_78 : decode cX11_nextBack 78 = .ok (.ireturn, 1) := dGR_16_c_484.2.2.2.1
theorem dX11_nextBack_79 : decode cX11_nextBack 79 = .ok (.aload_n 0, 1) := dGR_16_c_484.2.2.2.2.1
theorem dX11_nextBack_80 : decode cX11_nextBack 80 = .ok (.iload_n 1, 1) := dGR_16_c_484.2.2.2.2.2.1
theorem dX11_nextBack_81 : decode cX11_nextBack 81 = .ok (.invokevirtual 268, 3) := dGR_16_c_484.2.2.2.2.2.2.1
theorem dX11_nextBack_84 : decode cX11_nextBack 84 = .ok (.astore 8, 2) := dGR_16_c_484.2.2.2.2.2.2.2.1
theorem dX11_nextBack_86 : decode cX11_nextBack 86 = .ok (.aload_n 0, 1) := dGR_16_c_484.2.2.2.2.2.2.2.2.1
theorem dX11_nextBack_87 : decode cX11_nextBack 87 = .ok (.getfield 26, 3) := dGR_16_c_484.2.2.2.2.2.2.2.2.2.1
theorem dX11_nextBack_90 : decode cX11_nextBack 90 = .ok (.iload_n 1, 1) := dGR_16_c_484.2.2.2.2.2.2.2.2.2.2.1
theorem dX11_nextBack_91 : decode cX11_nextBack 91 = .ok (.invokevirtual 164, 3) := dGR_16_c_484.2.2.2.2.2.2.2.2.2.2.2
set_option maxRecDepth 100000 in
theorem dGR_16_c_485 : (decode cX11_nextBack 94 = .ok (.iload 5, 2)) ∧ (decode cX11_nextBack 96 = .ok (.iload_n 3, 1)) ∧ (decode cX11_nextBack 97 = .ok (.aload 8, 2)) ∧ (decode cX11_nextBack 99 = .ok (.getfield 283, 3)) ∧ (decode cX11_nextBack 102 = .ok (.iload_n 2, 1)) ∧ (decode cX11_nextBack 103 = .ok (.iaload, 1)) ∧ (decode cX11_nextBack 104 = .ok (.invokevirtual 293, 3)) ∧ (decode cX11_nextBack 107 = .ok (.istore 9, 2)) ∧ (decode cX11_nextBack 109 = .ok (.aload_n 0, 1)) ∧ (decode cX11_nextBack 110 = .ok (.aload 8, 2)) ∧ (decode cX11_nextBack 112 = .ok (.aload 8, 2)) ∧ (decode cX11_nextBack 114 = .ok (.getfield 281, 3)) := by decide +kernel
theorem dX11_nextBack_94 : decode cX11_nextBack 94 = .ok (.iload 5, 2) := dGR_16_c_485.1
theorem dX11_nextBack_96 : decode cX11_nextBack 96 = .ok (.iload_n 3, 1) := dGR_16_c_485.2.1
theorem dX11_nextBack_97 : decode cX11_nextBack 97 = .ok (.aload 8, 2) := dGR_16_c_485.2.2.1
theorem dX11_nextBack_99 : decode cX11_nextBack 99 = .ok (.getfield 283, 3) := dGR_16_c_485.2.2.2.1
theorem dX11_nextBack_102 : decode cX11_nextBack 102 = .ok (.iload_n 2, 1) := dGR_16_c_485.2.2.2.2.1
theorem dX11_nextBack_103 : decode cX11_nextBack 103 = .ok (.iaload, 1) := dGR_16_c_485.2.2.2.2.2.1
theorem dX11_nextBack_104 : decode cX11_nextBack 104 = .ok (.invokevirtual 293, 3) := dGR_16_c_485.2.2.2.2.2.2.1
theorem dX11_nextBack_107 : decode cX11_nextBack 107 = .ok (.istore 9, 2) := dGR_16_c_485.2.2.2.2.2.2.2.1
theorem dX11_nextBack_109 : decode cX11_nextBack 109 = .ok (.aload_n 0, 1) := dGR_16_c_485.2.2.2.2.2.2.2.2.1
theorem dX11_nextBack_110 : decode cX11_nextBack 110 = .ok (.aload 8, 2) := dGR_16_c_485.2.2.2.2.2.2.2.2.2.1
theorem dX11_nextBack_112 : decode cX11_nextBack 112 = .ok (.aload 8, 2) := dGR_16_c_485.2.2.2.2.2.2.2.2.2.2.1
theorem dX11_nextBack_114 : decode cX11_nextBack 114 = .ok (.getfield 281, 3) := dGR_16_c_485.2.2.2.2.2.2.2.2.2.2.2
set_option maxRecDepth 100000 in
theorem dGR_16_c_486 : (decode cX11_nextBack 117 = .ok (.iload 4, 2)) ∧ (decode cX11_nextBack 119 = .ok (.iaload, 1)) ∧ (decode cX11_nextBack 120 = .ok (.iload 9, 2)) ∧ (decode cX11_nextBack 122 = .ok (.invokestatic 296, 3)) ∧ (decode cX11_nextBack 125 = .ok (.aload 8, 2)) ∧ (decode cX11_nextBack 127 = .ok (.getfield 283, 3)) ∧ (decode cX11_nextBack 130 = .ok (.iload 4, 2)) ∧ (decode cX11_nextBack 132 = .ok (.iaload, 1)) ∧ (decode cX11_nextBack 133 = .ok (.iload 9, 2)) ∧ (decode cX11_nextBack 135 = .ok (.invokestatic 301, 3)) ∧ (decode cX11_nextBack 138 = .ok (.invokevirtual 304, 3)) ∧ (decode cX11_nextBack 141 = .ok (.invokevirtual 145, 3)) := by decide +kernel
theorem dX11_nextBack_117 : decode cX11_nextBack 117 = .ok (.iload 4, 2) := dGR_16_c_486.1
theorem dX11_nextBack_119 : decode cX11_nextBack 119 = .ok (.iaload, 1) := dGR_16_c_486.2.1
theorem dX11_nextBack_120 : decode cX11_nextBack 120 = .ok (.iload 9, 2) := dGR_16_c_486.2.2.1
theorem dX11_nextBack_122 : decode cX11_nextBack 122 = .ok (.invokestatic 296, 3) := dGR_16_c_486.2.2.2.1
theorem dX11_nextBack_125 : decode cX11_nextBack 125 = .ok (.aload 8, 2) := dGR_16_c_486.2.2.2.2.1
theorem dX11_nextBack_127 : decode cX11_nextBack 127 = .ok (.getfield 283, 3) := dGR_16_c_486.2.2.2.2.2.1
theorem dX11_nextBack_130 : decode cX11_nextBack 130 = .ok (.iload 4, 2) := dGR_16_c_486.2.2.2.2.2.2.1
theorem dX11_nextBack_132 : decode cX11_nextBack 132 = .ok (.iaload, 1) := dGR_16_c_486.2.2.2.2.2.2.2.1
theorem dX11_nextBack_133 : decode cX11_nextBack 133 = .ok (.iload 9, 2) := dGR_16_c_486.2.2.2.2.2.2.2.2.1
theorem dX11_nextBack_135 : decode cX11_nextBack 135 = .ok (.invokestatic 301, 3) := dGR_16_c_486.2.2.2.2.2.2.2.2.2.1
theorem dX11_nextBack_138 : decode cX11_nextBack 138 = .ok (.invokevirtual 304, 3) := dGR_16_c_486.2.2.2.2.2.2.2.2.2.2.1
theorem dX11_nextBack_141 : decode cX11_nextBack 141 = .ok (.invokevirtual 145, 3) := dGR_16_c_486.2.2.2.2.2.2.2.2.2.2.2
theorem dX11_nextBack_144 : decode cX11_nextBack 144 = .ok (.ireturn, 1) := by decide +kernel
set_option maxRecDepth 100000 in
theorem dGR_16_c_487 : (decode cX11_reaches 0 = .ok (.aload_n 0, 1)) ∧ (decode cX11_reaches 1 = .ok (.getfield 26, 3)) ∧ (decode cX11_reaches 4 = .ok (.iload_n 1, 1)) ∧ (decode cX11_reaches 5 = .ok (.invokevirtual 163, 3)) ∧ (decode cX11_reaches 8 = .ok (.ifCond .ne 9, 3)) ∧ (decode cX11_reaches 11 = .ok (.aload_n 0, 1)) ∧ (decode cX11_reaches 12 = .ok (.iconst 1, 1)) ∧ (decode cX11_reaches 13 = .ok (.invokevirtual 110, 3)) ∧ (decode cX11_reaches 16 = .ok (.ireturn, 1)) ∧ (decode cX11_reaches 17 = .ok (.aload_n 0, 1)) ∧ (decode cX11_reaches 18 = .ok (.getfield 26, 3)) ∧ (decode cX11_reaches 21 = .ok (.iload_n 1, 1)) := by decide +kernel
theorem dX11_reaches_0 : decode cX11_reaches 0 = .ok (.aload_n 0, 1) := dGR_16_c_487.1
theorem dX11_reaches_1 : decode cX11_reaches 1 = .ok (.getfield 26, 3) := dGR_16_c_487.2.1
theorem dX11_reaches_4 : decode cX11_reaches 4 = .ok (.iload_n 1, 1) := dGR_16_c_487.2.2.1
theorem dX11_reaches_5 : decode cX11_reaches 5 = .ok (.invokevirtual 163, 3) := dGR_16_c_487.2.2.2.1
theorem dX11_reaches_8 : decode cX11_reaches 8 = .ok (.ifCond .ne 9, 3) := dGR_16_c_487.2.2.2.2.1
theorem dX11_reaches_11 : decode cX11_reaches 11 = .ok (.aload_n 0, 1) := dGR_16_c_487.2.2.2.2.2.1
theorem dX11_reaches_12 : decode cX11_reaches 12 = .ok (.iconst 1, 1) := dGR_16_c_487.2.2.2.2.2.2.1
theorem dX11_reaches_13 : decode cX11_reaches 13 = .ok (.invokevirtual 110, 3) := dGR_16_c_487.2.2.2.2.2.2.2.1
theorem dX11_reaches_16 : decode cX11_reaches 16 = .ok (.ireturn, 1) := dGR_16_c_487.2.2.2.2.2.2.2.2.1
theorem dX11_reaches_17 : decode cX11_reaches 17 = .ok (.aload_n 0, 1) := dGR_16_c_487.2.2.2.2.2.2.2.2.2.1
theorem dX11_reaches_18 : decode cX11_reaches 18 = .ok (.getfield 26, 3) := dGR_16_c_487.2.2.2.2.2.2.2.2.2.2.1
theorem dX11_reaches_21 : decode cX11_reaches 21 = .ok (.iload_n 1, 1) := dGR_16_c_487.2.2.2.2.2.2.2.2.2.2.2
set_option maxRecDepth 100000 in
theorem dGR_16_c_488 : (decode cX11_reaches 22 = .ok (.invokevirtual 164, 3)) ∧ (decode cX11_reaches 25 = .ok (.astore_n 2, 1)) ∧ (decode cX11_reaches 26 = .ok (.aload_n 0, 1)) ∧ (decode cX11_reaches 27 = .ok (.aload_n 0, 1)) ∧ (decode cX11_reaches 28 = .ok (.getfield 26, 3)) ∧ (decode cX11_reaches 31 = .ok (.aload_n 2, 1)) ∧ (decode cX11_reaches 32 = .ok (.aload_n 2, 1)) ∧ (decode cX11_reaches 33 = .ok (.getfield 176, 3)) ∧ (decode cX11_reaches 36 = .ok (.iconst 1, 1)) ∧ (decode cX11_reaches 37 = .ok (.aload_n 0, 1)) ∧ (decode cX11_reaches 38 = .ok (.getfield 26, 3)) ∧ (decode cX11_reaches 41 = .ok (.aload_n 2, 1)) := by decide +kernel
theorem dX11_reaches_22 : decode cX11_reaches 22 = .ok (.invokevirtual 164, 3) := dGR_16_c_488.1
theorem dX11_reaches_25 : decode cX11_reaches 25 = .ok (.astore_n 2, 1) := dGR_16_c_488.2.1
theorem dX11_reaches_26 : decode cX11_reaches 26 = .ok (.aload_n 0, 1) := dGR_16_c_488.2.2.1
theorem dX11_reaches_27 : decode cX11_reaches 27 = .ok (.aload_n 0, 1) := dGR_16_c_488.2.2.2.1
theorem dX11_reaches_28 : decode cX11_reaches 28 = .ok (.getfield 26, 3) := dGR_16_c_488.2.2.2.2.1
theorem dX11_reaches_31 : decode cX11_reaches 31 = .ok (.aload_n 2, 1) := dGR_16_c_488.2.2.2.2.2.1
theorem dX11_reaches_32 : decode cX11_reaches 32 = .ok (.aload_n 2, 1) := dGR_16_c_488.2.2.2.2.2.2.1
theorem dX11_reaches_33 : decode cX11_reaches 33 = .ok (.getfield 176, 3) := dGR_16_c_488.2.2.2.2.2.2.2.1
theorem dX11_reaches_36 : decode cX11_reaches 36 = .ok (.iconst 1, 1) := dGR_16_c_488.2.2.2.2.2.2.2.2.1
theorem dX11_reaches_37 : decode cX11_reaches 37 = .ok (.aload_n 0, 1) := dGR_16_c_488.2.2.2.2.2.2.2.2.2.1
theorem dX11_reaches_38 : decode cX11_reaches 38 = .ok (.getfield 26, 3) := dGR_16_c_488.2.2.2.2.2.2.2.2.2.2.1
theorem dX11_reaches_41 : decode cX11_reaches 41 = .ok (.aload_n 2, 1) := dGR_16_c_488.2.2.2.2.2.2.2.2.2.2.2
set_option maxRecDepth 100000 in
theorem dGR_16_c_489 : (decode cX11_reaches 42 = .ok (.invokevirtual 309, 3)) ∧ (decode cX11_reaches 45 = .ok (.invokevirtual 313, 3)) ∧ (decode cX11_reaches 48 = .ok (.invokevirtual 145, 3)) ∧ (decode cX11_reaches 51 = .ok (.ireturn, 1)) := by decide +kernel
theorem dX11_reaches_42 : decode cX11_reaches 42 = .ok (.invokevirtual 309, 3) := dGR_16_c_489.1
theorem dX11_reaches_45 : decode cX11_reaches 45 = .ok (.invokevirtual 313, 3) := dGR_16_c_489.2.1
theorem dX11_reaches_48 : decode cX11_reaches 48 = .ok (.invokevirtual 145, 3) := dGR_16_c_489.2.2.1
theorem dX11_reaches_51 : decode cX11_reaches 51 = .ok (.ireturn, 1) := dGR_16_c_489.2.2.2
abbrev f_c_X11_reaches : List (Nat × Int) := [(62, 0)]
set_option maxHeartbeats 4000000 in
set_option maxRecDepth 100000 in
theorem c_X11_reaches (G : KG) (l : Launch) (M : Mem) (c0 : Int) (a1 : Int) (hI_M : Inv false M) (hk_c0 : kd c0 = 62) (hpre : -2147483648 ≤ a1 ∧ a1 ≤ 2147483647) : KC false G l yX11_reaches cX11_reaches 3 (some .int) (4, 98) [vR G c0, vI a1] M (fun A => kQi false G A (fun (r : Int) (N : Mem) => Inv false N ∧ Fr f_c_X11_reaches M N ∧ (r ≥ -1 ∧ r ≤ 7))) := by
  refine kx_met (lo := [some (vR G c0), some (vI a1), none]) (by decide) (Nat.le_of_ble_eq_true rfl) rfl ?_
  intro X F hQ
  have hF_M : Fr f_c_X11_reaches M M := Fr.rf _ _
  refine kx_aload_n 1 F 0 dX11_reaches_0 rfl rfl rfl ?_
  refine kx_getr 4 F fl_X11_26 hk_c0 rfl rfl (j := 5) rfl dX11_reaches_1 (v := (M c0 5)) rfl rfl ?_
  have hk_1 : kd (M c0 5) = 12 := Inv.r hI_M hk_c0 rfl 5 rfl rfl
  refine kx_iload_n 5 F 1 dX11_reaches_4 rfl rfl rfl ?_
  refine kx_Vi 8 (ci := 0) F (As := [vI a1]) (st := []) vd_X11_163 (c_X5_has G l M (M c0 5) a1 hI_M hk_1 (by omega)) hk_1 rfl rfl rfl ⟨by decide, by decide⟩ rfl rfl (Nat.le_of_ble_eq_true rfl) dX11_reaches_5 rfl ?_
  intro r_2 N_3 q_4
  obtain ⟨rfl, q_4c⟩ := q_4
  have h_5 := Inv.g hI_M hk_1 rfl 3 (a := 0) (b := 2) rfl rfl
  rcases q_4c with q_4c | q_4c
  · refine kx_if_ne 11 F 17 dX11_reaches_8 (by decide) rfl (by omega) (fun h_6 => ?_) (fun h_6 => (by exfalso; omega))
    refine kx_aload_n 18 F 0 dX11_reaches_17 rfl rfl rfl ?_
    refine kx_getr 21 F fl_X11_26 hk_c0 rfl rfl (j := 5) rfl dX11_reaches_18 (v := (M c0 5)) rfl rfl ?_
    refine kx_iload_n 22 F 1 dX11_reaches_21 rfl rfl rfl ?_
    refine kx_Vr 25 (ci := 0) F (As := [vI a1]) (st := []) vd_X11_164 (c_X5_pick G l M (M c0 5) a1 hI_M hk_1 (by omega)) hk_1 rfl rfl rfl ⟨by decide, by decide⟩ rfl rfl (Nat.le_of_ble_eq_true rfl) dX11_reaches_22 rfl ?_
    intro r_7 N_8 q_9
    obtain ⟨rfl, hk_10⟩ := q_9
    refine kx_astore_n 26 F 2 (lo' := [some (vR G c0), some (vI a1), some (vR G r_7)]) dX11_reaches_25 rfl (by decide) rfl rfl rfl ?_
    refine kx_aload_n 27 F 0 dX11_reaches_26 rfl rfl rfl ?_
    refine kx_aload_n 28 F 0 dX11_reaches_27 rfl rfl rfl ?_
    refine kx_getr 31 F fl_X11_26 hk_c0 rfl rfl (j := 5) rfl dX11_reaches_28 (v := (M c0 5)) rfl rfl ?_
    refine kx_aload_n 32 F 2 dX11_reaches_31 rfl rfl rfl ?_
    refine kx_aload_n 33 F 2 dX11_reaches_32 rfl rfl rfl ?_
    refine kx_geti 36 F fl_X11_176 hk_10 rfl rfl (j := 2) rfl dX11_reaches_33 (v := (M r_7 2)) rfl rfl ?_
    have h_11 := Inv.g hI_M hk_10 rfl 2 (a := 0) (b := 7) rfl rfl
    refine kx_iconst 37 F dX11_reaches_36 rfl ?_
    refine kx_aload_n 38 F 0 dX11_reaches_37 rfl rfl rfl ?_
    refine kx_getr 41 F fl_X11_26 hk_c0 rfl rfl (j := 5) rfl dX11_reaches_38 (v := (M c0 5)) rfl rfl ?_
    refine kx_aload_n 42 F 2 dX11_reaches_41 rfl rfl rfl ?_
    refine kx_Vi 45 (ci := 0) F (As := [vR G r_7]) (st := [vI 1, vI (M r_7 2), vR G r_7, vR G (M c0 5), vR G c0]) vd_X11_309 (c_X5_wellPairs G l M (M c0 5) r_7 hI_M hk_1 hk_10) hk_1 rfl rfl rfl ⟨by decide, by decide⟩ rfl rfl (Nat.le_of_ble_eq_true rfl) dX11_reaches_42 rfl ?_
    intro r_12 N_13 q_14
    obtain ⟨rfl, q_14c⟩ := q_14
    refine kx_Vi 48 (ci := 0) F (As := [vR G r_7, vI (M r_7 2), vI 1, vI r_12]) (st := [vR G c0]) vd_X11_313 (c_X5_reachable G l M (M c0 5) r_7 (M r_7 2) 1 r_12 hI_M hk_1 hk_10 (by omega)) hk_1 rfl rfl rfl ⟨by decide, by decide⟩ rfl rfl (Nat.le_of_ble_eq_true rfl) dX11_reaches_45 rfl ?_
    intro r_15 N_16 q_17
    obtain ⟨rfl, q_17c⟩ := q_17
    refine kx_Vi 51 (ci := 0) F (As := [vI r_15]) (st := []) vd_X11_145 (c_X11_answer G l M c0 r_15 hI_M hk_c0 (by omega)) hk_c0 rfl rfl rfl ⟨by decide, by decide⟩ rfl rfl (Nat.le_of_ble_eq_true rfl) dX11_reaches_48 rfl ?_
    intro r_18 N_19 q_20
    obtain ⟨hI_N_19, hG_N_19, q_20c⟩ := q_20
    have hF_N_19 : Fr f_c_X11_reaches M N_19 := Fr.c hF_M hG_N_19 rfl
    exact kx_iret F hQ ⟨hI_N_19, hF_N_19, (by omega)⟩ dX11_reaches_51
  · refine kx_if_ne 11 F 17 dX11_reaches_8 (by decide) rfl (by omega) (fun h_21 => (by exfalso; omega)) (fun h_21 => ?_)
    refine kx_aload_n 12 F 0 dX11_reaches_11 rfl rfl rfl ?_
    refine kx_iconst 13 F dX11_reaches_12 rfl ?_
    refine kx_Vi 16 (ci := 0) F (As := [vI 1]) (st := []) vd_X11_110 (c_X11_refuse G l M c0 1 hI_M hk_c0 (by omega)) hk_c0 rfl rfl rfl ⟨by decide, by decide⟩ rfl rfl (Nat.le_of_ble_eq_true rfl) dX11_reaches_13 rfl ?_
    intro r_22 N_23 q_24
    obtain ⟨hI_N_23, hG_N_23, q_24c⟩ := q_24
    have hF_N_23 : Fr f_c_X11_reaches M N_23 := Fr.c hF_M hG_N_23 rfl
    subst q_24c
    exact kx_iret F hQ ⟨hI_N_23, hF_N_23, (by omega)⟩ dX11_reaches_16
set_option maxRecDepth 100000 in
theorem dGR_16_c_490 : (decode cX11_shortest 0 = .ok (.aload_n 0, 1)) ∧ (decode cX11_shortest 1 = .ok (.getfield 26, 3)) ∧ (decode cX11_shortest 4 = .ok (.iload_n 1, 1)) ∧ (decode cX11_shortest 5 = .ok (.invokevirtual 163, 3)) ∧ (decode cX11_shortest 8 = .ok (.ifCond .ne 9, 3)) ∧ (decode cX11_shortest 11 = .ok (.aload_n 0, 1)) ∧ (decode cX11_shortest 12 = .ok (.iconst 1, 1)) ∧ (decode cX11_shortest 13 = .ok (.invokevirtual 110, 3)) ∧ (decode cX11_shortest 16 = .ok (.ireturn, 1)) ∧ (decode cX11_shortest 17 = .ok (.aload_n 0, 1)) ∧ (decode cX11_shortest 18 = .ok (.aload_n 0, 1)) ∧ (decode cX11_shortest 19 = .ok (.getfield 47, 3)) := by decide +kernel
theorem dX11_shortest_0 : decode cX11_shortest 0 = .ok (.aload_n 0, 1) := dGR_16_c_490.1
theorem dX11_shortest_1 : decode cX11_shortest 1 = .ok (.getfield 26, 3) := dGR_16_c_490.2.1
theorem dX11_shortest_4 : decode cX11_shortest 4 = .ok (.iload_n 1, 1) := dGR_16_c_490.2.2.1
theorem dX11_shortest_5 : decode cX11_shortest 5 = .ok (.invokevirtual 163, 3) := dGR_16_c_490.2.2.2.1
theorem dX11_shortest_8 : decode cX11_shortest 8 = .ok (.ifCond .ne 9, 3) := dGR_16_c_490.2.2.2.2.1
theorem dX11_shortest_11 : decode cX11_shortest 11 = .ok (.aload_n 0, 1) := dGR_16_c_490.2.2.2.2.2.1
theorem dX11_shortest_12 : decode cX11_shortest 12 = .ok (.iconst 1, 1) := dGR_16_c_490.2.2.2.2.2.2.1
theorem dX11_shortest_13 : decode cX11_shortest 13 = .ok (.invokevirtual 110, 3) := dGR_16_c_490.2.2.2.2.2.2.2.1
theorem dX11_shortest_16 : decode cX11_shortest 16 = .ok (.ireturn, 1) := dGR_16_c_490.2.2.2.2.2.2.2.2.1
theorem dX11_shortest_17 : decode cX11_shortest 17 = .ok (.aload_n 0, 1) := dGR_16_c_490.2.2.2.2.2.2.2.2.2.1
theorem dX11_shortest_18 : decode cX11_shortest 18 = .ok (.aload_n 0, 1) := dGR_16_c_490.2.2.2.2.2.2.2.2.2.2.1
theorem dX11_shortest_19 : decode cX11_shortest 19 = .ok (.getfield 47, 3) := dGR_16_c_490.2.2.2.2.2.2.2.2.2.2.2
set_option maxRecDepth 100000 in
theorem dGR_16_c_491 : (decode cX11_shortest 22 = .ok (.aload_n 0, 1)) ∧ (decode cX11_shortest 23 = .ok (.getfield 26, 3)) ∧ (decode cX11_shortest 26 = .ok (.iconst 0, 1)) ∧ (decode cX11_shortest 27 = .ok (.iload_n 1, 1)) ∧ (decode cX11_shortest 28 = .ok (.iload_n 1, 1)) ∧ (decode cX11_shortest 29 = .ok (.invokevirtual 317, 3)) ∧ (decode cX11_shortest 32 = .ok (.invokevirtual 321, 3)) ∧ (decode cX11_shortest 35 = .ok (.ireturn, 1)) := by decide +kernel
theorem dX11_shortest_22 : decode cX11_shortest 22 = .ok (.aload_n 0, 1) := dGR_16_c_491.1
theorem dX11_shortest_23 : decode cX11_shortest 23 = .ok (.getfield 26, 3) := dGR_16_c_491.2.1
theorem dX11_shortest_26 : decode cX11_shortest 26 = .ok (.iconst 0, 1) := dGR_16_c_491.2.2.1
theorem dX11_shortest_27 : decode cX11_shortest 27 = .ok (.iload_n 1, 1) := dGR_16_c_491.2.2.2.1
theorem dX11_shortest_28 : decode cX11_shortest 28 = .ok (.iload_n 1, 1) := dGR_16_c_491.2.2.2.2.1
theorem dX11_shortest_29 : decode cX11_shortest 29 = .ok (.invokevirtual 317, 3) := dGR_16_c_491.2.2.2.2.2.1
theorem dX11_shortest_32 : decode cX11_shortest 32 = .ok (.invokevirtual 321, 3) := dGR_16_c_491.2.2.2.2.2.2.1
theorem dX11_shortest_35 : decode cX11_shortest 35 = .ok (.ireturn, 1) := dGR_16_c_491.2.2.2.2.2.2.2
abbrev f_c_X11_shortest : List (Nat × Int) := [(26, 0), (27, -1), (28, -1), (29, -1), (30, -1), (31, 0), (32, -1), (33, -1), (34, -1), (35, -1), (36, 0), (37, -1), (38, -1), (39, -1), (40, -1), (41, 2), (41, 3), (41, 4), (41, 5), (41, 7), (41, 8), (41, 9), (41, 13), (42, -1), (43, -1), (44, -1), (45, -1), (46, -1), (62, 0)]
set_option maxHeartbeats 4000000 in
set_option maxRecDepth 100000 in
theorem c_X11_shortest (G : KG) (l : Launch) (M : Mem) (c0 : Int) (a1 : Int) (hI_M : Inv false M) (hk_c0 : kd c0 = 62) (hpre : -2147483648 ≤ a1 ∧ a1 ≤ 2147483647) (hX_M : XX M) : KC false G l yX11_shortest cX11_shortest 2 (some .int) (7, 173) [vR G c0, vI a1] M (fun A => kQi false G A (fun (r : Int) (N : Mem) => Inv false N ∧ Fr f_c_X11_shortest M N ∧ (r ≥ -1 ∧ r ≤ 1000000000) ∧ XX N)) := by
  refine kx_met (lo := [some (vR G c0), some (vI a1)]) (by decide) (Nat.le_of_ble_eq_true rfl) rfl ?_
  intro X F hQ
  have hF_M : Fr f_c_X11_shortest M M := Fr.rf _ _
  refine kx_aload_n 1 F 0 dX11_shortest_0 rfl rfl rfl ?_
  refine kx_getr 4 F fl_X11_26 hk_c0 rfl rfl (j := 5) rfl dX11_shortest_1 (v := (M c0 5)) rfl rfl ?_
  have hk_1 : kd (M c0 5) = 12 := Inv.r hI_M hk_c0 rfl 5 rfl rfl
  refine kx_iload_n 5 F 1 dX11_shortest_4 rfl rfl rfl ?_
  refine kx_Vi 8 (ci := 0) F (As := [vI a1]) (st := []) vd_X11_163 (c_X5_has G l M (M c0 5) a1 hI_M hk_1 (by omega)) hk_1 rfl rfl rfl ⟨by decide, by decide⟩ rfl rfl (Nat.le_of_ble_eq_true rfl) dX11_shortest_5 rfl ?_
  intro r_2 N_3 q_4
  obtain ⟨rfl, q_4c⟩ := q_4
  have h_5 := Inv.g hI_M hk_1 rfl 3 (a := 0) (b := 2) rfl rfl
  rcases q_4c with q_4c | q_4c
  · refine kx_if_ne 11 F 17 dX11_shortest_8 (by decide) rfl (by omega) (fun h_6 => ?_) (fun h_6 => (by exfalso; omega))
    refine kx_aload_n 18 F 0 dX11_shortest_17 rfl rfl rfl ?_
    refine kx_aload_n 19 F 0 dX11_shortest_18 rfl rfl rfl ?_
    refine kx_getr 22 F fl_X11_47 hk_c0 rfl rfl (j := 10) rfl dX11_shortest_19 (v := (M c0 10)) rfl rfl ?_
    have hk_7 : kd (M c0 10) = 41 := Inv.r hI_M hk_c0 rfl 10 rfl rfl
    refine kx_aload_n 23 F 0 dX11_shortest_22 rfl rfl rfl ?_
    refine kx_getr 26 F fl_X11_26 hk_c0 rfl rfl (j := 5) rfl dX11_shortest_23 (v := (M c0 5)) rfl rfl ?_
    refine kx_iconst 27 F dX11_shortest_26 rfl ?_
    refine kx_iload_n 28 F 1 dX11_shortest_27 rfl rfl rfl ?_
    refine kx_iload_n 29 F 1 dX11_shortest_28 rfl rfl rfl ?_
    refine kx_Vi 32 (ci := 0) F (As := [vR G (M c0 5), vI 0, vI a1, vI a1]) (st := [vR G c0]) vd_X11_317 (c_X4_slotOf G l M (M c0 10) (M c0 5) 0 a1 a1 hI_M hk_7 hk_1 (by omega) hX_M) hk_7 rfl rfl rfl ⟨by decide, by decide⟩ rfl rfl (Nat.le_of_ble_eq_true rfl) dX11_shortest_29 rfl ?_
    intro r_8 N_9 q_10
    obtain ⟨hI_N_9, hG_N_9, q_10c, hX_N_9⟩ := q_10
    have hF_N_9 : Fr f_c_X11_shortest M N_9 := Fr.c hF_M hG_N_9 rfl
    refine kx_Vi 35 (ci := 0) F (As := [vI r_8]) (st := []) vd_X11_321 (c_X11_tellLength G l N_9 c0 r_8 hI_N_9 hk_c0 (by omega)) hk_c0 rfl rfl rfl ⟨by decide, by decide⟩ rfl rfl (Nat.le_of_ble_eq_true rfl) dX11_shortest_32 rfl ?_
    intro r_11 N_12 q_13
    obtain ⟨hI_N_12, hG_N_12, q_13c⟩ := q_13
    have hF_N_12 : Fr f_c_X11_shortest M N_12 := Fr.c hF_N_9 hG_N_12 rfl
    have hX_N_12 : XX N_12 := XX.fr hX_N_9 hI_N_9 hG_N_12 rfl
    exact kx_iret F hQ ⟨hI_N_12, hF_N_12, (by omega), hX_N_12⟩ dX11_shortest_35
  · refine kx_if_ne 11 F 17 dX11_shortest_8 (by decide) rfl (by omega) (fun h_14 => (by exfalso; omega)) (fun h_14 => ?_)
    refine kx_aload_n 12 F 0 dX11_shortest_11 rfl rfl rfl ?_
    refine kx_iconst 13 F dX11_shortest_12 rfl ?_
    refine kx_Vi 16 (ci := 0) F (As := [vI 1]) (st := []) vd_X11_110 (c_X11_refuse G l M c0 1 hI_M hk_c0 (by omega)) hk_c0 rfl rfl rfl ⟨by decide, by decide⟩ rfl rfl (Nat.le_of_ble_eq_true rfl) dX11_shortest_13 rfl ?_
    intro r_15 N_16 q_17
    obtain ⟨hI_N_16, hG_N_16, q_17c⟩ := q_17
    have hF_N_16 : Fr f_c_X11_shortest M N_16 := Fr.c hF_M hG_N_16 rfl
    have hX_N_16 : XX N_16 := XX.fr hX_M hI_M hG_N_16 rfl
    subst q_17c
    exact kx_iret F hQ ⟨hI_N_16, hF_N_16, (by omega), hX_N_16⟩ dX11_shortest_16
set_option maxRecDepth 100000 in
theorem dGR_16_c_492 : (decode cX11_shortestAt 0 = .ok (.aload_n 0, 1)) ∧ (decode cX11_shortestAt 1 = .ok (.getfield 26, 3)) ∧ (decode cX11_shortestAt 4 = .ok (.iload_n 1, 1)) ∧ (decode cX11_shortestAt 5 = .ok (.invokevirtual 163, 3)) ∧ (decode cX11_shortestAt 8 = .ok (.ifCond .eq 7, 3)) ∧ (decode cX11_shortestAt 11 = .ok (.iload_n 2, 1)) ∧ (decode cX11_shortestAt 12 = .ok (.ifCond .ge 9, 3)) ∧ (decode cX11_shortestAt 15 = .ok (.aload_n 0, 1)) ∧ (decode cX11_shortestAt 16 = .ok (.iconst 1, 1)) ∧ (decode cX11_shortestAt 17 = .ok (.invokevirtual 110, 3)) ∧ (decode cX11_shortestAt 20 = .ok (.ireturn, 1)) ∧ (decode cX11_shortestAt 21 = .ok (.aload_n 0, 1)) := by decide +kernel
theorem dX11_shortestAt_0 : decode cX11_shortestAt 0 = .ok (.aload_n 0, 1) := dGR_16_c_492.1
theorem dX11_shortestAt_1 : decode cX11_shortestAt 1 = .ok (.getfield 26, 3) := dGR_16_c_492.2.1
theorem dX11_shortestAt_4 : decode cX11_shortestAt 4 = .ok (.iload_n 1, 1) := dGR_16_c_492.2.2.1
theorem dX11_shortestAt_5 : decode cX11_shortestAt 5 = .ok (.invokevirtual 163, 3) := dGR_16_c_492.2.2.2.1
theorem dX11_shortestAt_8 : decode cX11_shortestAt 8 = .ok (.ifCond .eq 7, 3) := dGR_16_c_492.2.2.2.2.1
theorem dX11_shortestAt_11 : decode cX11_shortestAt 11 = .ok (.iload_n 2, 1) := dGR_16_c_492.2.2.2.2.2.1
theorem dX11_shortestAt_12 : decode cX11_shortestAt 12 = .ok (.ifCond .ge 9, 3) := dGR_16_c_492.2.2.2.2.2.2.1
theorem dX11_shortestAt_15 : decode cX11_shortestAt 15 = .ok (.aload_n 0, 1) := dGR_16_c_492.2.2.2.2.2.2.2.1
theorem dX11_shortestAt_16 : decode cX11_shortestAt 16 = .ok (.iconst 1, 1) := dGR_16_c_492.2.2.2.2.2.2.2.2.1
theorem dX11_shortestAt_17 : decode cX11_shortestAt 17 = .ok (.invokevirtual 110, 3) := dGR_16_c_492.2.2.2.2.2.2.2.2.2.1
theorem dX11_shortestAt_20 : decode cX11_shortestAt 20 = .ok (.ireturn, 1) := dGR_16_c_492.2.2.2.2.2.2.2.2.2.2.1
theorem dX11_shortestAt_21 : decode cX11_shortestAt 21 = .ok (.aload_n 0, 1) := dGR_16_c_492.2.2.2.2.2.2.2.2.2.2.2
set_option maxRecDepth 100000 in
theorem dGR_16_c_493 : (decode cX11_shortestAt 22 = .ok (.aload_n 0, 1)) ∧ (decode cX11_shortestAt 23 = .ok (.getfield 47, 3)) ∧ (decode cX11_shortestAt 26 = .ok (.aload_n 0, 1)) ∧ (decode cX11_shortestAt 27 = .ok (.getfield 26, 3)) ∧ (decode cX11_shortestAt 30 = .ok (.iconst 0, 1)) ∧ (decode cX11_shortestAt 31 = .ok (.iload_n 1, 1)) ∧ (decode cX11_shortestAt 32 = .ok (.iload_n 1, 1)) ∧ (decode cX11_shortestAt 33 = .ok (.invokevirtual 317, 3)) ∧ (decode cX11_shortestAt 36 = .ok (.iload_n 2, 1)) ∧ (decode cX11_shortestAt 37 = .ok (.invokevirtual 324, 3)) ∧ (decode cX11_shortestAt 40 = .ok (.ireturn, 1)) := by decide +kernel
theorem dX11_shortestAt_22 : decode cX11_shortestAt 22 = .ok (.aload_n 0, 1) := dGR_16_c_493.1
theorem dX11_shortestAt_23 : decode cX11_shortestAt 23 = .ok (.getfield 47, 3) := dGR_16_c_493.2.1
theorem dX11_shortestAt_26 : decode cX11_shortestAt 26 = .ok (.aload_n 0, 1) := dGR_16_c_493.2.2.1
theorem dX11_shortestAt_27 : decode cX11_shortestAt 27 = .ok (.getfield 26, 3) := dGR_16_c_493.2.2.2.1
theorem dX11_shortestAt_30 : decode cX11_shortestAt 30 = .ok (.iconst 0, 1) := dGR_16_c_493.2.2.2.2.1
theorem dX11_shortestAt_31 : decode cX11_shortestAt 31 = .ok (.iload_n 1, 1) := dGR_16_c_493.2.2.2.2.2.1
theorem dX11_shortestAt_32 : decode cX11_shortestAt 32 = .ok (.iload_n 1, 1) := dGR_16_c_493.2.2.2.2.2.2.1
theorem dX11_shortestAt_33 : decode cX11_shortestAt 33 = .ok (.invokevirtual 317, 3) := dGR_16_c_493.2.2.2.2.2.2.2.1
theorem dX11_shortestAt_36 : decode cX11_shortestAt 36 = .ok (.iload_n 2, 1) := dGR_16_c_493.2.2.2.2.2.2.2.2.1
theorem dX11_shortestAt_37 : decode cX11_shortestAt 37 = .ok (.invokevirtual 324, 3) := dGR_16_c_493.2.2.2.2.2.2.2.2.2.1
theorem dX11_shortestAt_40 : decode cX11_shortestAt 40 = .ok (.ireturn, 1) := dGR_16_c_493.2.2.2.2.2.2.2.2.2.2
abbrev f_c_X11_shortestAt : List (Nat × Int) := [(26, 0), (27, -1), (28, -1), (29, -1), (30, -1), (31, 0), (32, -1), (33, -1), (34, -1), (35, -1), (36, 0), (37, -1), (38, -1), (39, -1), (40, -1), (41, 2), (41, 3), (41, 4), (41, 5), (41, 7), (41, 8), (41, 9), (41, 13), (42, -1), (43, -1), (44, -1), (45, -1), (46, -1), (62, 0)]
set_option maxHeartbeats 4000000 in
set_option maxRecDepth 100000 in
theorem c_X11_shortestAt (G : KG) (l : Launch) (M : Mem) (c0 : Int) (a1 : Int) (a2 : Int) (hI_M : Inv false M) (hk_c0 : kd c0 = 62) (hpre : -2147483648 ≤ a1 ∧ a1 ≤ 2147483647 ∧ -2147483648 ≤ a2 ∧ a2 ≤ 2147483647) (hX_M : XX M) : KC false G l yX11_shortestAt cX11_shortestAt 3 (some .int) (7, 173) [vR G c0, vI a1, vI a2] M (fun A => kQi false G A (fun (r : Int) (N : Mem) => Inv false N ∧ Fr f_c_X11_shortestAt M N ∧ (r ≥ -2147483646 ∧ r ≤ 2147483646) ∧ XX N)) := by
  refine kx_met (lo := [some (vR G c0), some (vI a1), some (vI a2)]) (by decide) (Nat.le_of_ble_eq_true rfl) rfl ?_
  intro X F hQ
  have hF_M : Fr f_c_X11_shortestAt M M := Fr.rf _ _
  refine kx_aload_n 1 F 0 dX11_shortestAt_0 rfl rfl rfl ?_
  refine kx_getr 4 F fl_X11_26 hk_c0 rfl rfl (j := 5) rfl dX11_shortestAt_1 (v := (M c0 5)) rfl rfl ?_
  have hk_1 : kd (M c0 5) = 12 := Inv.r hI_M hk_c0 rfl 5 rfl rfl
  refine kx_iload_n 5 F 1 dX11_shortestAt_4 rfl rfl rfl ?_
  refine kx_Vi 8 (ci := 0) F (As := [vI a1]) (st := []) vd_X11_163 (c_X5_has G l M (M c0 5) a1 hI_M hk_1 (by omega)) hk_1 rfl rfl rfl ⟨by decide, by decide⟩ rfl rfl (Nat.le_of_ble_eq_true rfl) dX11_shortestAt_5 rfl ?_
  intro r_2 N_3 q_4
  obtain ⟨rfl, q_4c⟩ := q_4
  have h_5 := Inv.g hI_M hk_1 rfl 3 (a := 0) (b := 2) rfl rfl
  rcases q_4c with q_4c | q_4c
  · refine kx_if_eq 11 F 15 dX11_shortestAt_8 (by decide) rfl (by omega) (fun h_6 => (by exfalso; omega)) (fun h_6 => ?_)
    refine kx_iload_n 12 F 2 dX11_shortestAt_11 rfl rfl rfl ?_
    refine kx_if_ge 15 F 21 dX11_shortestAt_12 (by decide) rfl (by omega) (fun h_7 => ?_) (fun h_7 => ?_)
    · refine kx_aload_n 22 F 0 dX11_shortestAt_21 rfl rfl rfl ?_
      refine kx_aload_n 23 F 0 dX11_shortestAt_22 rfl rfl rfl ?_
      refine kx_getr 26 F fl_X11_47 hk_c0 rfl rfl (j := 10) rfl dX11_shortestAt_23 (v := (M c0 10)) rfl rfl ?_
      have hk_8 : kd (M c0 10) = 41 := Inv.r hI_M hk_c0 rfl 10 rfl rfl
      refine kx_aload_n 27 F 0 dX11_shortestAt_26 rfl rfl rfl ?_
      refine kx_getr 30 F fl_X11_26 hk_c0 rfl rfl (j := 5) rfl dX11_shortestAt_27 (v := (M c0 5)) rfl rfl ?_
      refine kx_iconst 31 F dX11_shortestAt_30 rfl ?_
      refine kx_iload_n 32 F 1 dX11_shortestAt_31 rfl rfl rfl ?_
      refine kx_iload_n 33 F 1 dX11_shortestAt_32 rfl rfl rfl ?_
      refine kx_Vi 36 (ci := 0) F (As := [vR G (M c0 5), vI 0, vI a1, vI a1]) (st := [vR G c0]) vd_X11_317 (c_X4_slotOf G l M (M c0 10) (M c0 5) 0 a1 a1 hI_M hk_8 hk_1 (by omega) hX_M) hk_8 rfl rfl rfl ⟨by decide, by decide⟩ rfl rfl (Nat.le_of_ble_eq_true rfl) dX11_shortestAt_33 rfl ?_
      intro r_9 N_10 q_11
      obtain ⟨hI_N_10, hG_N_10, q_11c, hX_N_10⟩ := q_11
      have hF_N_10 : Fr f_c_X11_shortestAt M N_10 := Fr.c hF_M hG_N_10 rfl
      refine kx_iload_n 37 F 2 dX11_shortestAt_36 rfl rfl rfl ?_
      refine kx_Vi 40 (ci := 0) F (As := [vI r_9, vI a2]) (st := []) vd_X11_324 (c_X11_tellLetter G l N_10 c0 r_9 a2 hI_N_10 hk_c0 (by omega)) hk_c0 rfl rfl rfl ⟨by decide, by decide⟩ rfl rfl (Nat.le_of_ble_eq_true rfl) dX11_shortestAt_37 rfl ?_
      intro r_12 N_13 q_14
      obtain ⟨hI_N_13, hG_N_13, q_14c⟩ := q_14
      have hF_N_13 : Fr f_c_X11_shortestAt M N_13 := Fr.c hF_N_10 hG_N_13 rfl
      have hX_N_13 : XX N_13 := XX.fr hX_N_10 hI_N_10 hG_N_13 rfl
      exact kx_iret F hQ ⟨hI_N_13, hF_N_13, (by omega), hX_N_13⟩ dX11_shortestAt_40
    · refine kx_aload_n 16 F 0 dX11_shortestAt_15 rfl rfl rfl ?_
      refine kx_iconst 17 F dX11_shortestAt_16 rfl ?_
      refine kx_Vi 20 (ci := 0) F (As := [vI 1]) (st := []) vd_X11_110 (c_X11_refuse G l M c0 1 hI_M hk_c0 (by omega)) hk_c0 rfl rfl rfl ⟨by decide, by decide⟩ rfl rfl (Nat.le_of_ble_eq_true rfl) dX11_shortestAt_17 rfl ?_
      intro r_15 N_16 q_17
      obtain ⟨hI_N_16, hG_N_16, q_17c⟩ := q_17
      have hF_N_16 : Fr f_c_X11_shortestAt M N_16 := Fr.c hF_M hG_N_16 rfl
      have hX_N_16 : XX N_16 := XX.fr hX_M hI_M hG_N_16 rfl
      subst q_17c
      exact kx_iret F hQ ⟨hI_N_16, hF_N_16, (by omega), hX_N_16⟩ dX11_shortestAt_20
  · refine kx_if_eq 11 F 15 dX11_shortestAt_8 (by decide) rfl (by omega) (fun h_18 => ?_) (fun h_18 => (by exfalso; omega))
    refine kx_aload_n 16 F 0 dX11_shortestAt_15 rfl rfl rfl ?_
    refine kx_iconst 17 F dX11_shortestAt_16 rfl ?_
    refine kx_Vi 20 (ci := 0) F (As := [vI 1]) (st := []) vd_X11_110 (c_X11_refuse G l M c0 1 hI_M hk_c0 (by omega)) hk_c0 rfl rfl rfl ⟨by decide, by decide⟩ rfl rfl (Nat.le_of_ble_eq_true rfl) dX11_shortestAt_17 rfl ?_
    intro r_19 N_20 q_21
    obtain ⟨hI_N_20, hG_N_20, q_21c⟩ := q_21
    have hF_N_20 : Fr f_c_X11_shortestAt M N_20 := Fr.c hF_M hG_N_20 rfl
    have hX_N_20 : XX N_20 := XX.fr hX_M hI_M hG_N_20 rfl
    subst q_21c
    exact kx_iret F hQ ⟨hI_N_20, hF_N_20, (by omega), hX_N_20⟩ dX11_shortestAt_20
set_option maxRecDepth 100000 in
theorem dGR_16_c_494 : (decode cX11_both 0 = .ok (.aload_n 0, 1)) ∧ (decode cX11_both 1 = .ok (.iload_n 1, 1)) ∧ (decode cX11_both 2 = .ok (.iload_n 2, 1)) ∧ (decode cX11_both 3 = .ok (.invokevirtual 219, 3)) ∧ (decode cX11_both 6 = .ok (.ifCond .ne 9, 3)) ∧ (decode cX11_both 9 = .ok (.aload_n 0, 1)) ∧ (decode cX11_both 10 = .ok (.iconst 1, 1)) ∧ (decode cX11_both 11 = .ok (.invokevirtual 110, 3)) ∧ (decode cX11_both 14 = .ok (.ireturn, 1)) ∧ (decode cX11_both 15 = .ok (.aload_n 0, 1)) ∧ (decode cX11_both 16 = .ok (.aload_n 0, 1)) ∧ (decode cX11_both 17 = .ok (.getfield 47, 3)) := by decide +kernel
theorem dX11_both_0 : decode cX11_both 0 = .ok (.aload_n 0, 1) := dGR_16_c_494.1
theorem dX11_both_1 : decode cX11_both 1 = .ok (.iload_n 1, 1) := dGR_16_c_494.2.1
theorem dX11_both_2 : decode cX11_both 2 = .ok (.iload_n 2, 1) := dGR_16_c_494.2.2.1
theorem dX11_both_3 : decode cX11_both 3 = .ok (.invokevirtual 219, 3) := dGR_16_c_494.2.2.2.1
theorem dX11_both_6 : decode cX11_both 6 = .ok (.ifCond .ne 9, 3) := dGR_16_c_494.2.2.2.2.1
theorem dX11_both_9 : decode cX11_both 9 = .ok (.aload_n 0, 1) := dGR_16_c_494.2.2.2.2.2.1
theorem dX11_both_10 : decode cX11_both 10 = .ok (.iconst 1, 1) := dGR_16_c_494.2.2.2.2.2.2.1
theorem dX11_both_11 : decode cX11_both 11 = .ok (.invokevirtual 110, 3) := dGR_16_c_494.2.2.2.2.2.2.2.1
theorem dX11_both_14 : decode cX11_both 14 = .ok (.ireturn, 1) := dGR_16_c_494.2.2.2.2.2.2.2.2.1
theorem dX11_both_15 : decode cX11_both 15 = .ok (.aload_n 0, 1) := dGR_16_c_494.2.2.2.2.2.2.2.2.2.1
theorem dX11_both_16 : decode cX11_both 16 = .ok (.aload_n 0, 1) := dGR_16_c_494.2.2.2.2.2.2.2.2.2.2.1
theorem dX11_both_17 : decode cX11_both 17 = .ok (.getfield 47, 3) := dGR_16_c_494.2.2.2.2.2.2.2.2.2.2.2
set_option maxRecDepth 100000 in
theorem dGR_16_c_495 : (decode cX11_both 20 = .ok (.aload_n 0, 1)) ∧ (decode cX11_both 21 = .ok (.getfield 26, 3)) ∧ (decode cX11_both 24 = .ok (.iconst 1, 1)) ∧ (decode cX11_both 25 = .ok (.iload_n 1, 1)) ∧ (decode cX11_both 26 = .ok (.iload_n 2, 1)) ∧ (decode cX11_both 27 = .ok (.invokevirtual 317, 3)) ∧ (decode cX11_both 30 = .ok (.invokevirtual 321, 3)) ∧ (decode cX11_both 33 = .ok (.ireturn, 1)) := by decide +kernel
theorem dX11_both_20 : decode cX11_both 20 = .ok (.aload_n 0, 1) := dGR_16_c_495.1
theorem dX11_both_21 : decode cX11_both 21 = .ok (.getfield 26, 3) := dGR_16_c_495.2.1
theorem dX11_both_24 : decode cX11_both 24 = .ok (.iconst 1, 1) := dGR_16_c_495.2.2.1
theorem dX11_both_25 : decode cX11_both 25 = .ok (.iload_n 1, 1) := dGR_16_c_495.2.2.2.1
theorem dX11_both_26 : decode cX11_both 26 = .ok (.iload_n 2, 1) := dGR_16_c_495.2.2.2.2.1
theorem dX11_both_27 : decode cX11_both 27 = .ok (.invokevirtual 317, 3) := dGR_16_c_495.2.2.2.2.2.1
theorem dX11_both_30 : decode cX11_both 30 = .ok (.invokevirtual 321, 3) := dGR_16_c_495.2.2.2.2.2.2.1
theorem dX11_both_33 : decode cX11_both 33 = .ok (.ireturn, 1) := dGR_16_c_495.2.2.2.2.2.2.2
abbrev f_c_X11_both : List (Nat × Int) := [(26, 0), (27, -1), (28, -1), (29, -1), (30, -1), (31, 0), (32, -1), (33, -1), (34, -1), (35, -1), (36, 0), (37, -1), (38, -1), (39, -1), (40, -1), (41, 2), (41, 3), (41, 4), (41, 5), (41, 7), (41, 8), (41, 9), (41, 13), (42, -1), (43, -1), (44, -1), (45, -1), (46, -1), (62, 0)]
set_option maxHeartbeats 4000000 in
set_option maxRecDepth 100000 in
theorem c_X11_both (G : KG) (l : Launch) (M : Mem) (c0 : Int) (a1 : Int) (a2 : Int) (hI_M : Inv false M) (hk_c0 : kd c0 = 62) (hpre : -2147483648 ≤ a1 ∧ a1 ≤ 2147483647 ∧ -2147483648 ≤ a2 ∧ a2 ≤ 2147483647) (hX_M : XX M) : KC false G l yX11_both cX11_both 3 (some .int) (7, 173) [vR G c0, vI a1, vI a2] M (fun A => kQi false G A (fun (r : Int) (N : Mem) => Inv false N ∧ Fr f_c_X11_both M N ∧ (r ≥ -1 ∧ r ≤ 1000000000) ∧ XX N)) := by
  refine kx_met (lo := [some (vR G c0), some (vI a1), some (vI a2)]) (by decide) (Nat.le_of_ble_eq_true rfl) rfl ?_
  intro X F hQ
  have hF_M : Fr f_c_X11_both M M := Fr.rf _ _
  refine kx_aload_n 1 F 0 dX11_both_0 rfl rfl rfl ?_
  refine kx_iload_n 2 F 1 dX11_both_1 rfl rfl rfl ?_
  refine kx_iload_n 3 F 2 dX11_both_2 rfl rfl rfl ?_
  refine kx_Vi 6 (ci := 0) F (As := [vI a1, vI a2]) (st := []) vd_X11_219 (c_X11_areTwo G l M c0 a1 a2 hI_M hk_c0 (by omega)) hk_c0 rfl rfl rfl ⟨by decide, by decide⟩ rfl rfl (Nat.le_of_ble_eq_true rfl) dX11_both_3 rfl ?_
  intro r_1 N_2 q_3
  obtain ⟨rfl, q_3c⟩ := q_3
  rcases q_3c with q_3c | q_3c
  · refine kx_if_ne 9 F 15 dX11_both_6 (by decide) rfl (by omega) (fun h_4 => ?_) (fun h_4 => (by exfalso; omega))
    refine kx_aload_n 16 F 0 dX11_both_15 rfl rfl rfl ?_
    refine kx_aload_n 17 F 0 dX11_both_16 rfl rfl rfl ?_
    refine kx_getr 20 F fl_X11_47 hk_c0 rfl rfl (j := 10) rfl dX11_both_17 (v := (M c0 10)) rfl rfl ?_
    have hk_5 : kd (M c0 10) = 41 := Inv.r hI_M hk_c0 rfl 10 rfl rfl
    refine kx_aload_n 21 F 0 dX11_both_20 rfl rfl rfl ?_
    refine kx_getr 24 F fl_X11_26 hk_c0 rfl rfl (j := 5) rfl dX11_both_21 (v := (M c0 5)) rfl rfl ?_
    have hk_6 : kd (M c0 5) = 12 := Inv.r hI_M hk_c0 rfl 5 rfl rfl
    refine kx_iconst 25 F dX11_both_24 rfl ?_
    refine kx_iload_n 26 F 1 dX11_both_25 rfl rfl rfl ?_
    refine kx_iload_n 27 F 2 dX11_both_26 rfl rfl rfl ?_
    refine kx_Vi 30 (ci := 0) F (As := [vR G (M c0 5), vI 1, vI a1, vI a2]) (st := [vR G c0]) vd_X11_317 (c_X4_slotOf G l M (M c0 10) (M c0 5) 1 a1 a2 hI_M hk_5 hk_6 (by omega) hX_M) hk_5 rfl rfl rfl ⟨by decide, by decide⟩ rfl rfl (Nat.le_of_ble_eq_true rfl) dX11_both_27 rfl ?_
    intro r_7 N_8 q_9
    obtain ⟨hI_N_8, hG_N_8, q_9c, hX_N_8⟩ := q_9
    have hF_N_8 : Fr f_c_X11_both M N_8 := Fr.c hF_M hG_N_8 rfl
    refine kx_Vi 33 (ci := 0) F (As := [vI r_7]) (st := []) vd_X11_321 (c_X11_tellLength G l N_8 c0 r_7 hI_N_8 hk_c0 (by omega)) hk_c0 rfl rfl rfl ⟨by decide, by decide⟩ rfl rfl (Nat.le_of_ble_eq_true rfl) dX11_both_30 rfl ?_
    intro r_10 N_11 q_12
    obtain ⟨hI_N_11, hG_N_11, q_12c⟩ := q_12
    have hF_N_11 : Fr f_c_X11_both M N_11 := Fr.c hF_N_8 hG_N_11 rfl
    have hX_N_11 : XX N_11 := XX.fr hX_N_8 hI_N_8 hG_N_11 rfl
    exact kx_iret F hQ ⟨hI_N_11, hF_N_11, (by omega), hX_N_11⟩ dX11_both_33
  · refine kx_if_ne 9 F 15 dX11_both_6 (by decide) rfl (by omega) (fun h_13 => (by exfalso; omega)) (fun h_13 => ?_)
    refine kx_aload_n 10 F 0 dX11_both_9 rfl rfl rfl ?_
    refine kx_iconst 11 F dX11_both_10 rfl ?_
    refine kx_Vi 14 (ci := 0) F (As := [vI 1]) (st := []) vd_X11_110 (c_X11_refuse G l M c0 1 hI_M hk_c0 (by omega)) hk_c0 rfl rfl rfl ⟨by decide, by decide⟩ rfl rfl (Nat.le_of_ble_eq_true rfl) dX11_both_11 rfl ?_
    intro r_14 N_15 q_16
    obtain ⟨hI_N_15, hG_N_15, q_16c⟩ := q_16
    have hF_N_15 : Fr f_c_X11_both M N_15 := Fr.c hF_M hG_N_15 rfl
    have hX_N_15 : XX N_15 := XX.fr hX_M hI_M hG_N_15 rfl
    subst q_16c
    exact kx_iret F hQ ⟨hI_N_15, hF_N_15, (by omega), hX_N_15⟩ dX11_both_14
set_option maxRecDepth 100000 in
theorem dGR_16_c_496 : (decode cX11_bothAt 0 = .ok (.aload_n 0, 1)) ∧ (decode cX11_bothAt 1 = .ok (.iload_n 1, 1)) ∧ (decode cX11_bothAt 2 = .ok (.iload_n 2, 1)) ∧ (decode cX11_bothAt 3 = .ok (.invokevirtual 219, 3)) ∧ (decode cX11_bothAt 6 = .ok (.ifCond .eq 7, 3)) ∧ (decode cX11_bothAt 9 = .ok (.iload_n 3, 1)) ∧ (decode cX11_bothAt 10 = .ok (.ifCond .ge 9, 3)) ∧ (decode cX11_bothAt 13 = .ok (.aload_n 0, 1)) ∧ (decode cX11_bothAt 14 = .ok (.iconst 1, 1)) ∧ (decode cX11_bothAt 15 = .ok (.invokevirtual 110, 3)) ∧ (decode cX11_bothAt 18 = .ok (.ireturn, 1)) ∧ (decode cX11_bothAt 19 = .ok (.aload_n 0, 1)) := by decide +kernel
theorem dX11_bothAt_0 : decode cX11_bothAt 0 = .ok (.aload_n 0, 1) := dGR_16_c_496.1
theorem dX11_bothAt_1 : decode cX11_bothAt 1 = .ok (.iload_n 1, 1) := dGR_16_c_496.2.1
theorem dX11_bothAt_2 : decode cX11_bothAt 2 = .ok (.iload_n 2, 1) := dGR_16_c_496.2.2.1
theorem dX11_bothAt_3 : decode cX11_bothAt 3 = .ok (.invokevirtual 219, 3) := dGR_16_c_496.2.2.2.1
theorem dX11_bothAt_6 : decode cX11_bothAt 6 = .ok (.ifCond .eq 7, 3) := dGR_16_c_496.2.2.2.2.1
theorem dX11_bothAt_9 : decode cX11_bothAt 9 = .ok (.iload_n 3, 1) := dGR_16_c_496.2.2.2.2.2.1
theorem dX11_bothAt_10 : decode cX11_bothAt 10 = .ok (.ifCond .ge 9, 3) := dGR_16_c_496.2.2.2.2.2.2.1
theorem dX11_bothAt_13 : decode cX11_bothAt 13 = .ok (.aload_n 0, 1) := dGR_16_c_496.2.2.2.2.2.2.2.1
theorem dX11_bothAt_14 : decode cX11_bothAt 14 = .ok (.iconst 1, 1) := dGR_16_c_496.2.2.2.2.2.2.2.2.1
theorem dX11_bothAt_15 : decode cX11_bothAt 15 = .ok (.invokevirtual 110, 3) := dGR_16_c_496.2.2.2.2.2.2.2.2.2.1
theorem dX11_bothAt_18 : decode cX11_bothAt 18 = .ok (.ireturn, 1) := dGR_16_c_496.2.2.2.2.2.2.2.2.2.2.1
theorem dX11_bothAt_19 : decode cX11_bothAt 19 = .ok (.aload_n 0, 1) := dGR_16_c_496.2.2.2.2.2.2.2.2.2.2.2
set_option maxRecDepth 100000 in
theorem dGR_16_c_497 : (decode cX11_bothAt 20 = .ok (.aload_n 0, 1)) ∧ (decode cX11_bothAt 21 = .ok (.getfield 47, 3)) ∧ (decode cX11_bothAt 24 = .ok (.aload_n 0, 1)) ∧ (decode cX11_bothAt 25 = .ok (.getfield 26, 3)) ∧ (decode cX11_bothAt 28 = .ok (.iconst 1, 1)) ∧ (decode cX11_bothAt 29 = .ok (.iload_n 1, 1)) ∧ (decode cX11_bothAt 30 = .ok (.iload_n 2, 1)) ∧ (decode cX11_bothAt 31 = .ok (.invokevirtual 317, 3)) ∧ (decode cX11_bothAt 34 = .ok (.iload_n 3, 1)) ∧ (decode cX11_bothAt 35 = .ok (.invokevirtual 324, 3)) ∧ (decode cX11_bothAt 38 = .ok (.ireturn, 1)) := by decide +kernel
theorem dX11_bothAt_20 : decode cX11_bothAt 20 = .ok (.aload_n 0, 1) := dGR_16_c_497.1
theorem dX11_bothAt_21 : decode cX11_bothAt 21 = .ok (.getfield 47, 3) := dGR_16_c_497.2.1
theorem dX11_bothAt_24 : decode cX11_bothAt 24 = .ok (.aload_n 0, 1) := dGR_16_c_497.2.2.1
theorem dX11_bothAt_25 : decode cX11_bothAt 25 = .ok (.getfield 26, 3) := dGR_16_c_497.2.2.2.1
theorem dX11_bothAt_28 : decode cX11_bothAt 28 = .ok (.iconst 1, 1) := dGR_16_c_497.2.2.2.2.1
theorem dX11_bothAt_29 : decode cX11_bothAt 29 = .ok (.iload_n 1, 1) := dGR_16_c_497.2.2.2.2.2.1
theorem dX11_bothAt_30 : decode cX11_bothAt 30 = .ok (.iload_n 2, 1) := dGR_16_c_497.2.2.2.2.2.2.1
theorem dX11_bothAt_31 : decode cX11_bothAt 31 = .ok (.invokevirtual 317, 3) := dGR_16_c_497.2.2.2.2.2.2.2.1
theorem dX11_bothAt_34 : decode cX11_bothAt 34 = .ok (.iload_n 3, 1) := dGR_16_c_497.2.2.2.2.2.2.2.2.1
theorem dX11_bothAt_35 : decode cX11_bothAt 35 = .ok (.invokevirtual 324, 3) := dGR_16_c_497.2.2.2.2.2.2.2.2.2.1
theorem dX11_bothAt_38 : decode cX11_bothAt 38 = .ok (.ireturn, 1) := dGR_16_c_497.2.2.2.2.2.2.2.2.2.2
abbrev f_c_X11_bothAt : List (Nat × Int) := [(26, 0), (27, -1), (28, -1), (29, -1), (30, -1), (31, 0), (32, -1), (33, -1), (34, -1), (35, -1), (36, 0), (37, -1), (38, -1), (39, -1), (40, -1), (41, 2), (41, 3), (41, 4), (41, 5), (41, 7), (41, 8), (41, 9), (41, 13), (42, -1), (43, -1), (44, -1), (45, -1), (46, -1), (62, 0)]
set_option maxHeartbeats 4000000 in
set_option maxRecDepth 100000 in
theorem c_X11_bothAt (G : KG) (l : Launch) (M : Mem) (c0 : Int) (a1 : Int) (a2 : Int) (a3 : Int) (hI_M : Inv false M) (hk_c0 : kd c0 = 62) (hpre : -2147483648 ≤ a1 ∧ a1 ≤ 2147483647 ∧ -2147483648 ≤ a2 ∧ a2 ≤ 2147483647 ∧ -2147483648 ≤ a3 ∧ a3 ≤ 2147483647) (hX_M : XX M) : KC false G l yX11_bothAt cX11_bothAt 4 (some .int) (7, 173) [vR G c0, vI a1, vI a2, vI a3] M (fun A => kQi false G A (fun (r : Int) (N : Mem) => Inv false N ∧ Fr f_c_X11_bothAt M N ∧ (r ≥ -2147483646 ∧ r ≤ 2147483646) ∧ XX N)) := by
  refine kx_met (lo := [some (vR G c0), some (vI a1), some (vI a2), some (vI a3)]) (by decide) (Nat.le_of_ble_eq_true rfl) rfl ?_
  intro X F hQ
  have hF_M : Fr f_c_X11_bothAt M M := Fr.rf _ _
  refine kx_aload_n 1 F 0 dX11_bothAt_0 rfl rfl rfl ?_
  refine kx_iload_n 2 F 1 dX11_bothAt_1 rfl rfl rfl ?_
  refine kx_iload_n 3 F 2 dX11_bothAt_2 rfl rfl rfl ?_
  refine kx_Vi 6 (ci := 0) F (As := [vI a1, vI a2]) (st := []) vd_X11_219 (c_X11_areTwo G l M c0 a1 a2 hI_M hk_c0 (by omega)) hk_c0 rfl rfl rfl ⟨by decide, by decide⟩ rfl rfl (Nat.le_of_ble_eq_true rfl) dX11_bothAt_3 rfl ?_
  intro r_1 N_2 q_3
  obtain ⟨rfl, q_3c⟩ := q_3
  rcases q_3c with q_3c | q_3c
  · refine kx_if_eq 9 F 13 dX11_bothAt_6 (by decide) rfl (by omega) (fun h_4 => (by exfalso; omega)) (fun h_4 => ?_)
    refine kx_iload_n 10 F 3 dX11_bothAt_9 rfl rfl rfl ?_
    refine kx_if_ge 13 F 19 dX11_bothAt_10 (by decide) rfl (by omega) (fun h_5 => ?_) (fun h_5 => ?_)
    · refine kx_aload_n 20 F 0 dX11_bothAt_19 rfl rfl rfl ?_
      refine kx_aload_n 21 F 0 dX11_bothAt_20 rfl rfl rfl ?_
      refine kx_getr 24 F fl_X11_47 hk_c0 rfl rfl (j := 10) rfl dX11_bothAt_21 (v := (M c0 10)) rfl rfl ?_
      have hk_6 : kd (M c0 10) = 41 := Inv.r hI_M hk_c0 rfl 10 rfl rfl
      refine kx_aload_n 25 F 0 dX11_bothAt_24 rfl rfl rfl ?_
      refine kx_getr 28 F fl_X11_26 hk_c0 rfl rfl (j := 5) rfl dX11_bothAt_25 (v := (M c0 5)) rfl rfl ?_
      have hk_7 : kd (M c0 5) = 12 := Inv.r hI_M hk_c0 rfl 5 rfl rfl
      refine kx_iconst 29 F dX11_bothAt_28 rfl ?_
      refine kx_iload_n 30 F 1 dX11_bothAt_29 rfl rfl rfl ?_
      refine kx_iload_n 31 F 2 dX11_bothAt_30 rfl rfl rfl ?_
      refine kx_Vi 34 (ci := 0) F (As := [vR G (M c0 5), vI 1, vI a1, vI a2]) (st := [vR G c0]) vd_X11_317 (c_X4_slotOf G l M (M c0 10) (M c0 5) 1 a1 a2 hI_M hk_6 hk_7 (by omega) hX_M) hk_6 rfl rfl rfl ⟨by decide, by decide⟩ rfl rfl (Nat.le_of_ble_eq_true rfl) dX11_bothAt_31 rfl ?_
      intro r_8 N_9 q_10
      obtain ⟨hI_N_9, hG_N_9, q_10c, hX_N_9⟩ := q_10
      have hF_N_9 : Fr f_c_X11_bothAt M N_9 := Fr.c hF_M hG_N_9 rfl
      refine kx_iload_n 35 F 3 dX11_bothAt_34 rfl rfl rfl ?_
      refine kx_Vi 38 (ci := 0) F (As := [vI r_8, vI a3]) (st := []) vd_X11_324 (c_X11_tellLetter G l N_9 c0 r_8 a3 hI_N_9 hk_c0 (by omega)) hk_c0 rfl rfl rfl ⟨by decide, by decide⟩ rfl rfl (Nat.le_of_ble_eq_true rfl) dX11_bothAt_35 rfl ?_
      intro r_11 N_12 q_13
      obtain ⟨hI_N_12, hG_N_12, q_13c⟩ := q_13
      have hF_N_12 : Fr f_c_X11_bothAt M N_12 := Fr.c hF_N_9 hG_N_12 rfl
      have hX_N_12 : XX N_12 := XX.fr hX_N_9 hI_N_9 hG_N_12 rfl
      exact kx_iret F hQ ⟨hI_N_12, hF_N_12, (by omega), hX_N_12⟩ dX11_bothAt_38
    · refine kx_aload_n 14 F 0 dX11_bothAt_13 rfl rfl rfl ?_
      refine kx_iconst 15 F dX11_bothAt_14 rfl ?_
      refine kx_Vi 18 (ci := 0) F (As := [vI 1]) (st := []) vd_X11_110 (c_X11_refuse G l M c0 1 hI_M hk_c0 (by omega)) hk_c0 rfl rfl rfl ⟨by decide, by decide⟩ rfl rfl (Nat.le_of_ble_eq_true rfl) dX11_bothAt_15 rfl ?_
      intro r_14 N_15 q_16
      obtain ⟨hI_N_15, hG_N_15, q_16c⟩ := q_16
      have hF_N_15 : Fr f_c_X11_bothAt M N_15 := Fr.c hF_M hG_N_15 rfl
      have hX_N_15 : XX N_15 := XX.fr hX_M hI_M hG_N_15 rfl
      subst q_16c
      exact kx_iret F hQ ⟨hI_N_15, hF_N_15, (by omega), hX_N_15⟩ dX11_bothAt_18
  · refine kx_if_eq 9 F 13 dX11_bothAt_6 (by decide) rfl (by omega) (fun h_17 => ?_) (fun h_17 => (by exfalso; omega))
    refine kx_aload_n 14 F 0 dX11_bothAt_13 rfl rfl rfl ?_
    refine kx_iconst 15 F dX11_bothAt_14 rfl ?_
    refine kx_Vi 18 (ci := 0) F (As := [vI 1]) (st := []) vd_X11_110 (c_X11_refuse G l M c0 1 hI_M hk_c0 (by omega)) hk_c0 rfl rfl rfl ⟨by decide, by decide⟩ rfl rfl (Nat.le_of_ble_eq_true rfl) dX11_bothAt_15 rfl ?_
    intro r_18 N_19 q_20
    obtain ⟨hI_N_19, hG_N_19, q_20c⟩ := q_20
    have hF_N_19 : Fr f_c_X11_bothAt M N_19 := Fr.c hF_M hG_N_19 rfl
    have hX_N_19 : XX N_19 := XX.fr hX_M hI_M hG_N_19 rfl
    subst q_20c
    exact kx_iret F hQ ⟨hI_N_19, hF_N_19, (by omega), hX_N_19⟩ dX11_bothAt_18
set_option maxRecDepth 100000 in
theorem dGR_16_c_498 : (decode cX11_parting 0 = .ok (.aload_n 0, 1)) ∧ (decode cX11_parting 1 = .ok (.aload_n 0, 1)) ∧ (decode cX11_parting 2 = .ok (.iload_n 1, 1)) ∧ (decode cX11_parting 3 = .ok (.iload_n 2, 1)) ∧ (decode cX11_parting 4 = .ok (.invokevirtual 219, 3)) ∧ (decode cX11_parting 7 = .ok (.iload_n 2, 1)) ∧ (decode cX11_parting 8 = .ok (.invokevirtual 327, 3)) ∧ (decode cX11_parting 11 = .ok (.istore_n 3, 1)) ∧ (decode cX11_parting 12 = .ok (.iload_n 3, 1)) ∧ (decode cX11_parting 13 = .ok (.ifCond .eq 9, 3)) ∧ (decode cX11_parting 16 = .ok (.aload_n 0, 1)) ∧ (decode cX11_parting 17 = .ok (.iload_n 3, 1)) := by decide +kernel
theorem dX11_parting_0 : decode cX11_parting 0 = .ok (.aload_n 0, 1) := dGR_16_c_498.1
theorem dX11_parting_1 : decode cX11_parting 1 = .ok (.aload_n 0, 1) := dGR_16_c_498.2.1
theorem dX11_parting_2 : decode cX11_parting 2 = .ok (.iload_n 1, 1) := dGR_16_c_498.2.2.1
theorem dX11_parting_3 : decode cX11_parting 3 = .ok (.iload_n 2, 1) := dGR_16_c_498.2.2.2.1
theorem dX11_parting_4 : decode cX11_parting 4 = .ok (.invokevirtual 219, 3) := dGR_16_c_498.2.2.2.2.1
theorem dX11_parting_7 : decode cX11_parting 7 = .ok (.iload_n 2, 1) := dGR_16_c_498.2.2.2.2.2.1
theorem dX11_parting_8 : decode cX11_parting 8 = .ok (.invokevirtual 327, 3) := dGR_16_c_498.2.2.2.2.2.2.1
theorem dX11_parting_11 : decode cX11_parting 11 = .ok (.istore_n 3, 1) := dGR_16_c_498.2.2.2.2.2.2.2.1
theorem dX11_parting_12 : decode cX11_parting 12 = .ok (.iload_n 3, 1) := dGR_16_c_498.2.2.2.2.2.2.2.2.1
theorem dX11_parting_13 : decode cX11_parting 13 = .ok (.ifCond .eq 9, 3) := dGR_16_c_498.2.2.2.2.2.2.2.2.2.1
theorem dX11_parting_16 : decode cX11_parting 16 = .ok (.aload_n 0, 1) := dGR_16_c_498.2.2.2.2.2.2.2.2.2.2.1
theorem dX11_parting_17 : decode cX11_parting 17 = .ok (.iload_n 3, 1) := dGR_16_c_498.2.2.2.2.2.2.2.2.2.2.2
set_option maxRecDepth 100000 in
theorem dGR_16_c_499 : (decode cX11_parting 18 = .ok (.invokevirtual 110, 3)) ∧ (decode cX11_parting 21 = .ok (.ireturn, 1)) ∧ (decode cX11_parting 22 = .ok (.aload_n 0, 1)) ∧ (decode cX11_parting 23 = .ok (.aload_n 0, 1)) ∧ (decode cX11_parting 24 = .ok (.getfield 47, 3)) ∧ (decode cX11_parting 27 = .ok (.aload_n 0, 1)) ∧ (decode cX11_parting 28 = .ok (.getfield 26, 3)) ∧ (decode cX11_parting 31 = .ok (.iconst 2, 1)) ∧ (decode cX11_parting 32 = .ok (.iload_n 1, 1)) ∧ (decode cX11_parting 33 = .ok (.iload_n 2, 1)) ∧ (decode cX11_parting 34 = .ok (.invokevirtual 317, 3)) ∧ (decode cX11_parting 37 = .ok (.invokevirtual 321, 3)) := by decide +kernel
theorem dX11_parting_18 : decode cX11_parting 18 = .ok (.invokevirtual 110, 3) := dGR_16_c_499.1
theorem dX11_parting_21 : decode cX11_parting 21 = .ok (.ireturn, 1) := dGR_16_c_499.2.1
theorem dX11_parting_22 : decode cX11_parting 22 = .ok (.aload_n 0, 1) := dGR_16_c_499.2.2.1
theorem dX11_parting_23 : decode cX11_parting 23 = .ok (.aload_n 0, 1) := dGR_16_c_499.2.2.2.1
theorem dX11_parting_24 : decode cX11_parting 24 = .ok (.getfield 47, 3) := dGR_16_c_499.2.2.2.2.1
theorem dX11_parting_27 : decode cX11_parting 27 = .ok (.aload_n 0, 1) := dGR_16_c_499.2.2.2.2.2.1
theorem dX11_parting_28 : decode cX11_parting 28 = .ok (.getfield 26, 3) := dGR_16_c_499.2.2.2.2.2.2.1
theorem dX11_parting_31 : decode cX11_parting 31 = .ok (.iconst 2, 1) := dGR_16_c_499.2.2.2.2.2.2.2.1
theorem dX11_parting_32 : decode cX11_parting 32 = .ok (.iload_n 1, 1) := dGR_16_c_499.2.2.2.2.2.2.2.2.1
theorem dX11_parting_33 : decode cX11_parting 33 = .ok (.iload_n 2, 1) := dGR_16_c_499.2.2.2.2.2.2.2.2.2.1
theorem dX11_parting_34 : decode cX11_parting 34 = .ok (.invokevirtual 317, 3) := dGR_16_c_499.2.2.2.2.2.2.2.2.2.2.1
theorem dX11_parting_37 : decode cX11_parting 37 = .ok (.invokevirtual 321, 3) := dGR_16_c_499.2.2.2.2.2.2.2.2.2.2.2
theorem dX11_parting_40 : decode cX11_parting 40 = .ok (.ireturn, 1) := by decide +kernel
set_option maxRecDepth 100000 in
theorem dGR_16_c_500 : (decode cX11_partingAt 0 = .ok (.aload_n 0, 1)) ∧ (decode cX11_partingAt 1 = .ok (.aload_n 0, 1)) ∧ (decode cX11_partingAt 2 = .ok (.iload_n 1, 1)) ∧ (decode cX11_partingAt 3 = .ok (.iload_n 2, 1)) ∧ (decode cX11_partingAt 4 = .ok (.invokevirtual 219, 3)) ∧ (decode cX11_partingAt 7 = .ok (.ifCond .eq 11, 3)) ∧ (decode cX11_partingAt 10 = .ok (.iload_n 3, 1)) ∧ (decode cX11_partingAt 11 = .ok (.ifCond .lt 7, 3)) ∧ (decode cX11_partingAt 14 = .ok (.iconst 1, 1)) ∧ (decode cX11_partingAt 15 = .ok (.goto 4, 3)) ∧ (decode cX11_partingAt 18 = .ok (.iconst 0, 1)) ∧ (decode cX11_partingAt 19 = .ok (.iload_n 2, 1)) := by decide +kernel
theorem dX11_partingAt_0 : decode cX11_partingAt 0 = .ok (.aload_n 0, 1) := dGR_16_c_500.1
theorem dX11_partingAt_1 : decode cX11_partingAt 1 = .ok (.aload_n 0, 1) := dGR_16_c_500.2.1
theorem dX11_partingAt_2 : decode cX11_partingAt 2 = .ok (.iload_n 1, 1) := dGR_16_c_500.2.2.1
theorem dX11_partingAt_3 : decode cX11_partingAt 3 = .ok (.iload_n 2, 1) := dGR_16_c_500.2.2.2.1
theorem dX11_partingAt_4 : decode cX11_partingAt 4 = .ok (.invokevirtual 219, 3) := dGR_16_c_500.2.2.2.2.1
theorem dX11_partingAt_7 : decode cX11_partingAt 7 = .ok (.ifCond .eq 11, 3) := dGR_16_c_500.2.2.2.2.2.1
theorem dX11_partingAt_10 : decode cX11_partingAt 10 = .ok (.iload_n 3, 1) := dGR_16_c_500.2.2.2.2.2.2.1
theorem dX11_partingAt_11 : decode cX11_partingAt 11 = .ok (.ifCond .lt 7, 3) := dGR_16_c_500.2.2.2.2.2.2.2.1
theorem dX11_partingAt_14 : decode cX11_partingAt 14 = .ok (.iconst 1, 1) := dGR_16_c_500.2.2.2.2.2.2.2.2.1
theorem dX11_partingAt_15 : decode cX11_partingAt 15 = .ok (.goto 4, 3) := dGR_16_c_500.2.2.2.2.2.2.2.2.2.1
theorem dX11_partingAt_18 : decode cX11_partingAt 18 = .ok (.iconst 0, 1) := dGR_16_c_500.2.2.2.2.2.2.2.2.2.2.1
theorem dX11_partingAt_19 : decode cX11_partingAt 19 = .ok (.iload_n 2, 1) := dGR_16_c_500.2.2.2.2.2.2.2.2.2.2.2
set_option maxRecDepth 100000 in
theorem dGR_16_c_501 : (decode cX11_partingAt 20 = .ok (.invokevirtual 327, 3)) ∧ (decode cX11_partingAt 23 = .ok (.istore 4, 2)) ∧ (decode cX11_partingAt 25 = .ok (.iload 4, 2)) ∧ (decode cX11_partingAt 27 = .ok (.ifCond .eq 10, 3)) ∧ (decode cX11_partingAt 30 = .ok (.aload_n 0, 1)) ∧ (decode cX11_partingAt 31 = .ok (.iload 4, 2)) ∧ (decode cX11_partingAt 33 = .ok (.invokevirtual 110, 3)) ∧ (decode cX11_partingAt 36 = .ok (.ireturn, 1)) ∧ (decode cX11_partingAt 37 = .ok (.aload_n 0, 1)) ∧ (decode cX11_partingAt 38 = .ok (.aload_n 0, 1)) ∧ (decode cX11_partingAt 39 = .ok (.getfield 47, 3)) ∧ (decode cX11_partingAt 42 = .ok (.aload_n 0, 1)) := by decide +kernel
theorem dX11_partingAt_20 : decode cX11_partingAt 20 = .ok (.invokevirtual 327, 3) := dGR_16_c_501.1
theorem dX11_partingAt_23 : decode cX11_partingAt 23 = .ok (.istore 4, 2) := dGR_16_c_501.2.1
theorem dX11_partingAt_25 : decode cX11_partingAt 25 = .ok (.iload 4, 2) := dGR_16_c_501.2.2.1
theorem dX11_partingAt_27 : decode cX11_partingAt 27 = .ok (.ifCond .eq 10, 3) := dGR_16_c_501.2.2.2.1
theorem dX11_partingAt_30 : decode cX11_partingAt 30 = .ok (.aload_n 0, 1) := dGR_16_c_501.2.2.2.2.1
theorem dX11_partingAt_31 : decode cX11_partingAt 31 = .ok (.iload 4, 2) := dGR_16_c_501.2.2.2.2.2.1
theorem dX11_partingAt_33 : decode cX11_partingAt 33 = .ok (.invokevirtual 110, 3) := dGR_16_c_501.2.2.2.2.2.2.1
theorem dX11_partingAt_36 : decode cX11_partingAt 36 = .ok (.ireturn, 1) := dGR_16_c_501.2.2.2.2.2.2.2.1
theorem dX11_partingAt_37 : decode cX11_partingAt 37 = .ok (.aload_n 0, 1) := dGR_16_c_501.2.2.2.2.2.2.2.2.1
theorem dX11_partingAt_38 : decode cX11_partingAt 38 = .ok (.aload_n 0, 1) := dGR_16_c_501.2.2.2.2.2.2.2.2.2.1
theorem dX11_partingAt_39 : decode cX11_partingAt 39 = .ok (.getfield 47, 3) := dGR_16_c_501.2.2.2.2.2.2.2.2.2.2.1
theorem dX11_partingAt_42 : decode cX11_partingAt 42 = .ok (.aload_n 0, 1) := dGR_16_c_501.2.2.2.2.2.2.2.2.2.2.2
set_option maxRecDepth 100000 in
theorem dGR_16_c_502 : (decode cX11_partingAt 43 = .ok (.getfield 26, 3)) ∧ (decode cX11_partingAt 46 = .ok (.iconst 2, 1)) ∧ (decode cX11_partingAt 47 = .ok (.iload_n 1, 1)) ∧ (decode cX11_partingAt 48 = .ok (.iload_n 2, 1)) ∧ (decode cX11_partingAt 49 = .ok (.invokevirtual 317, 3)) ∧ (decode cX11_partingAt 52 = .ok (.iload_n 3, 1)) ∧ (decode cX11_partingAt 53 = .ok (.invokevirtual 324, 3)) ∧ (decode cX11_partingAt 56 = .ok (.ireturn, 1)) := by decide +kernel
theorem dX11_partingAt_43 : decode cX11_partingAt 43 = .ok (.getfield 26, 3) := dGR_16_c_502.1
theorem dX11_partingAt_46 : decode cX11_partingAt 46 = .ok (.iconst 2, 1) := dGR_16_c_502.2.1
theorem dX11_partingAt_47 : decode cX11_partingAt 47 = .ok (.iload_n 1, 1) := dGR_16_c_502.2.2.1
theorem dX11_partingAt_48 : decode cX11_partingAt 48 = .ok (.iload_n 2, 1) := dGR_16_c_502.2.2.2.1
theorem dX11_partingAt_49 : decode cX11_partingAt 49 = .ok (.invokevirtual 317, 3) := dGR_16_c_502.2.2.2.2.1
theorem dX11_partingAt_52 : decode cX11_partingAt 52 = .ok (.iload_n 3, 1) := dGR_16_c_502.2.2.2.2.2.1
theorem dX11_partingAt_53 : decode cX11_partingAt 53 = .ok (.invokevirtual 324, 3) := dGR_16_c_502.2.2.2.2.2.2.1
theorem dX11_partingAt_56 : decode cX11_partingAt 56 = .ok (.ireturn, 1) := dGR_16_c_502.2.2.2.2.2.2.2
set_option maxRecDepth 100000 in
theorem dGR_16_c_503 : (decode cX11_missing 0 = .ok (.aload_n 0, 1)) ∧ (decode cX11_missing 1 = .ok (.aload_n 0, 1)) ∧ (decode cX11_missing 2 = .ok (.getfield 26, 3)) ∧ (decode cX11_missing 5 = .ok (.iload_n 1, 1)) ∧ (decode cX11_missing 6 = .ok (.invokevirtual 163, 3)) ∧ (decode cX11_missing 9 = .ok (.iload_n 1, 1)) ∧ (decode cX11_missing 10 = .ok (.invokevirtual 327, 3)) ∧ (decode cX11_missing 13 = .ok (.istore_n 2, 1)) ∧ (decode cX11_missing 14 = .ok (.iload_n 2, 1)) ∧ (decode cX11_missing 15 = .ok (.ifCond .eq 9, 3)) ∧ (decode cX11_missing 18 = .ok (.aload_n 0, 1)) ∧ (decode cX11_missing 19 = .ok (.iload_n 2, 1)) := by decide +kernel
theorem dX11_missing_0 : decode cX11_missing 0 = .ok (.aload_n 0, 1) := dGR_16_c_503.1
theorem dX11_missing_1 : decode cX11_missing 1 = .ok (.aload_n 0, 1) := dGR_16_c_503.2.1
theorem dX11_missing_2 : decode cX11_missing 2 = .ok (.getfield 26, 3) := dGR_16_c_503.2.2.1
theorem dX11_missing_5 : decode cX11_missing 5 = .ok (.iload_n 1, 1) := dGR_16_c_503.2.2.2.1
theorem dX11_missing_6 : decode cX11_missing 6 = .ok (.invokevirtual 163, 3) := dGR_16_c_503.2.2.2.2.1
theorem dX11_missing_9 : decode cX11_missing 9 = .ok (.iload_n 1, 1) := dGR_16_c_503.2.2.2.2.2.1
theorem dX11_missing_10 : decode cX11_missing 10 = .ok (.invokevirtual 327, 3) := dGR_16_c_503.2.2.2.2.2.2.1
theorem dX11_missing_13 : decode cX11_missing 13 = .ok (.istore_n 2, 1) := dGR_16_c_503.2.2.2.2.2.2.2.1
theorem dX11_missing_14 : decode cX11_missing 14 = .ok (.iload_n 2, 1) := dGR_16_c_503.2.2.2.2.2.2.2.2.1
theorem dX11_missing_15 : decode cX11_missing 15 = .ok (.ifCond .eq 9, 3) := dGR_16_c_503.2.2.2.2.2.2.2.2.2.1
theorem dX11_missing_18 : decode cX11_missing 18 = .ok (.aload_n 0, 1) := dGR_16_c_503.2.2.2.2.2.2.2.2.2.2.1
theorem dX11_missing_19 : decode cX11_missing 19 = .ok (.iload_n 2, 1) := dGR_16_c_503.2.2.2.2.2.2.2.2.2.2.2
set_option maxRecDepth 100000 in
theorem dGR_16_c_504 : (decode cX11_missing 20 = .ok (.invokevirtual 110, 3)) ∧ (decode cX11_missing 23 = .ok (.ireturn, 1)) ∧ (decode cX11_missing 24 = .ok (.aload_n 0, 1)) ∧ (decode cX11_missing 25 = .ok (.aload_n 0, 1)) ∧ (decode cX11_missing 26 = .ok (.getfield 47, 3)) ∧ (decode cX11_missing 29 = .ok (.aload_n 0, 1)) ∧ (decode cX11_missing 30 = .ok (.getfield 26, 3)) ∧ (decode cX11_missing 33 = .ok (.iconst 3, 1)) ∧ (decode cX11_missing 34 = .ok (.iload_n 1, 1)) ∧ (decode cX11_missing 35 = .ok (.iload_n 1, 1)) ∧ (decode cX11_missing 36 = .ok (.invokevirtual 317, 3)) ∧ (decode cX11_missing 39 = .ok (.invokevirtual 321, 3)) := by decide +kernel
theorem dX11_missing_20 : decode cX11_missing 20 = .ok (.invokevirtual 110, 3) := dGR_16_c_504.1
theorem dX11_missing_23 : decode cX11_missing 23 = .ok (.ireturn, 1) := dGR_16_c_504.2.1
theorem dX11_missing_24 : decode cX11_missing 24 = .ok (.aload_n 0, 1) := dGR_16_c_504.2.2.1
theorem dX11_missing_25 : decode cX11_missing 25 = .ok (.aload_n 0, 1) := dGR_16_c_504.2.2.2.1
theorem dX11_missing_26 : decode cX11_missing 26 = .ok (.getfield 47, 3) := dGR_16_c_504.2.2.2.2.1
theorem dX11_missing_29 : decode cX11_missing 29 = .ok (.aload_n 0, 1) := dGR_16_c_504.2.2.2.2.2.1
theorem dX11_missing_30 : decode cX11_missing 30 = .ok (.getfield 26, 3) := dGR_16_c_504.2.2.2.2.2.2.1
theorem dX11_missing_33 : decode cX11_missing 33 = .ok (.iconst 3, 1) := dGR_16_c_504.2.2.2.2.2.2.2.1
theorem dX11_missing_34 : decode cX11_missing 34 = .ok (.iload_n 1, 1) := dGR_16_c_504.2.2.2.2.2.2.2.2.1
theorem dX11_missing_35 : decode cX11_missing 35 = .ok (.iload_n 1, 1) := dGR_16_c_504.2.2.2.2.2.2.2.2.2.1
theorem dX11_missing_36 : decode cX11_missing 36 = .ok (.invokevirtual 317, 3) := dGR_16_c_504.2.2.2.2.2.2.2.2.2.2.1
theorem dX11_missing_39 : decode cX11_missing 39 = .ok (.invokevirtual 321, 3) := dGR_16_c_504.2.2.2.2.2.2.2.2.2.2.2
theorem dX11_missing_42 : decode cX11_missing 42 = .ok (.ireturn, 1) := by decide +kernel
