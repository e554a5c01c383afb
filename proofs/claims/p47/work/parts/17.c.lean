set_option maxRecDepth 100000 in
theorem dGR_17_c_505 : (decode cX11_missingAt 0 = .ok (.aload_n 0, 1)) ∧ (decode cX11_missingAt 1 = .ok (.aload_n 0, 1)) ∧ (decode cX11_missingAt 2 = .ok (.getfield 26, 3)) ∧ (decode cX11_missingAt 5 = .ok (.iload_n 1, 1)) ∧ (decode cX11_missingAt 6 = .ok (.invokevirtual 163, 3)) ∧ (decode cX11_missingAt 9 = .ok (.ifCond .eq 11, 3)) ∧ (decode cX11_missingAt 12 = .ok (.iload_n 2, 1)) ∧ (decode cX11_missingAt 13 = .ok (.ifCond .lt 7, 3)) ∧ (decode cX11_missingAt 16 = .ok (.iconst 1, 1)) ∧ (decode cX11_missingAt 17 = .ok (.goto 4, 3)) ∧ (decode cX11_missingAt 20 = .ok (.iconst 0, 1)) ∧ (decode cX11_missingAt 21 = .ok (.iload_n 1, 1)) := by decide +kernel
theorem dX11_missingAt_0 : decode cX11_missingAt 0 = .ok (.aload_n 0, 1) := dGR_17_c_505.1
theorem dX11_missingAt_1 : decode cX11_missingAt 1 = .ok (.aload_n 0, 1) := dGR_17_c_505.2.1
theorem dX11_missingAt_2 : decode cX11_missingAt 2 = .ok (.getfield 26, 3) := dGR_17_c_505.2.2.1
theorem dX11_missingAt_5 : decode cX11_missingAt 5 = .ok (.iload_n 1, 1) := dGR_17_c_505.2.2.2.1
theorem dX11_missingAt_6 : decode cX11_missingAt 6 = .ok (.invokevirtual 163, 3) := dGR_17_c_505.2.2.2.2.1
theorem dX11_missingAt_9 : decode cX11_missingAt 9 = .ok (.ifCond .eq 11, 3) := dGR_17_c_505.2.2.2.2.2.1
theorem dX11_missingAt_12 : decode cX11_missingAt 12 = .ok (.iload_n 2, 1) := dGR_17_c_505.2.2.2.2.2.2.1
theorem dX11_missingAt_13 : decode cX11_missingAt 13 = .ok (.ifCond .lt 7, 3) := dGR_17_c_505.2.2.2.2.2.2.2.1
theorem dX11_missingAt_16 : decode cX11_missingAt 16 = .ok (.iconst 1, 1) := dGR_17_c_505.2.2.2.2.2.2.2.2.1
theorem dX11_missingAt_17 : decode cX11_missingAt 17 = .ok (.goto 4, 3) := dGR_17_c_505.2.2.2.2.2.2.2.2.2.1
theorem dX11_missingAt_20 : decode cX11_missingAt 20 = .ok (.iconst 0, 1) := dGR_17_c_505.2.2.2.2.2.2.2.2.2.2.1
theorem dX11_missingAt_21 : decode cX11_missingAt 21 = .ok (.iload_n 1, 1) := dGR_17_c_505.2.2.2.2.2.2.2.2.2.2.2
set_option maxRecDepth 100000 in
theorem dGR_17_c_506 : (decode cX11_missingAt 22 = .ok (.invokevirtual 327, 3)) ∧ (decode cX11_missingAt 25 = .ok (.istore_n 3, 1)) ∧ (decode cX11_missingAt 26 = .ok (.iload_n 3, 1)) ∧ (decode cX11_missingAt 27 = .ok (.ifCond .eq 9, 3)) ∧ (decode cX11_missingAt 30 = .ok (.aload_n 0, 1)) ∧ (decode cX11_missingAt 31 = .ok (.iload_n 3, 1)) ∧ (decode cX11_missingAt 32 = .ok (.invokevirtual 110, 3)) ∧ (decode cX11_missingAt 35 = .ok (.ireturn, 1)) ∧ (decode cX11_missingAt 36 = .ok (.aload_n 0, 1)) ∧ (decode cX11_missingAt 37 = .ok (.aload_n 0, 1)) ∧ (decode cX11_missingAt 38 = .ok (.getfield 47, 3)) ∧ (decode cX11_missingAt 41 = .ok (.aload_n 0, 1)) := by decide +kernel
theorem dX11_missingAt_22 : decode cX11_missingAt 22 = .ok (.invokevirtual 327, 3) := dGR_17_c_506.1
theorem dX11_missingAt_25 : decode cX11_missingAt 25 = .ok (.istore_n 3, 1) := dGR_17_c_506.2.1
theorem dX11_missingAt_26 : decode cX11_missingAt 26 = .ok (.iload_n 3, 1) := dGR_17_c_506.2.2.1
theorem dX11_missingAt_27 : decode cX11_missingAt 27 = .ok (.ifCond .eq 9, 3) := dGR_17_c_506.2.2.2.1
theorem dX11_missingAt_30 : decode cX11_missingAt 30 = .ok (.aload_n 0, 1) := dGR_17_c_506.2.2.2.2.1
theorem dX11_missingAt_31 : decode cX11_missingAt 31 = .ok (.iload_n 3, 1) := dGR_17_c_506.2.2.2.2.2.1
theorem dX11_missingAt_32 : decode cX11_missingAt 32 = .ok (.invokevirtual 110, 3) := dGR_17_c_506.2.2.2.2.2.2.1
theorem dX11_missingAt_35 : decode cX11_missingAt 35 = .ok (.ireturn, 1) := dGR_17_c_506.2.2.2.2.2.2.2.1
theorem dX11_missingAt_36 : decode cX11_missingAt 36 = .ok (.aload_n 0, 1) := dGR_17_c_506.2.2.2.2.2.2.2.2.1
theorem dX11_missingAt_37 : decode cX11_missingAt 37 = .ok (.aload_n 0, 1) := dGR_17_c_506.2.2.2.2.2.2.2.2.2.1
theorem dX11_missingAt_38 : decode cX11_missingAt 38 = .ok (.getfield 47, 3) := dGR_17_c_506.2.2.2.2.2.2.2.2.2.2.1
theorem dX11_missingAt_41 : decode cX11_missingAt 41 = .ok (.aload_n 0, 1) := dGR_17_c_506.2.2.2.2.2.2.2.2.2.2.2
set_option maxRecDepth 100000 in
theorem dGR_17_c_507 : (decode cX11_missingAt 42 = .ok (.getfield 26, 3)) ∧ (decode cX11_missingAt 45 = .ok (.iconst 3, 1)) ∧ (decode cX11_missingAt 46 = .ok (.iload_n 1, 1)) ∧ (decode cX11_missingAt 47 = .ok (.iload_n 1, 1)) ∧ (decode cX11_missingAt 48 = .ok (.invokevirtual 317, 3)) ∧ (decode cX11_missingAt 51 = .ok (.iload_n 2, 1)) ∧ (decode cX11_missingAt 52 = .ok (.invokevirtual 324, 3)) ∧ (decode cX11_missingAt 55 = .ok (.ireturn, 1)) := by decide +kernel
theorem dX11_missingAt_42 : decode cX11_missingAt 42 = .ok (.getfield 26, 3) := dGR_17_c_507.1
theorem dX11_missingAt_45 : decode cX11_missingAt 45 = .ok (.iconst 3, 1) := dGR_17_c_507.2.1
theorem dX11_missingAt_46 : decode cX11_missingAt 46 = .ok (.iload_n 1, 1) := dGR_17_c_507.2.2.1
theorem dX11_missingAt_47 : decode cX11_missingAt 47 = .ok (.iload_n 1, 1) := dGR_17_c_507.2.2.2.1
theorem dX11_missingAt_48 : decode cX11_missingAt 48 = .ok (.invokevirtual 317, 3) := dGR_17_c_507.2.2.2.2.1
theorem dX11_missingAt_51 : decode cX11_missingAt 51 = .ok (.iload_n 2, 1) := dGR_17_c_507.2.2.2.2.2.1
theorem dX11_missingAt_52 : decode cX11_missingAt 52 = .ok (.invokevirtual 324, 3) := dGR_17_c_507.2.2.2.2.2.2.1
theorem dX11_missingAt_55 : decode cX11_missingAt 55 = .ok (.ireturn, 1) := dGR_17_c_507.2.2.2.2.2.2.2
set_option maxRecDepth 100000 in
theorem dGR_17_c_508 : (decode cX11_includes 0 = .ok (.aload_n 0, 1)) ∧ (decode cX11_includes 1 = .ok (.aload_n 0, 1)) ∧ (decode cX11_includes 2 = .ok (.iload_n 1, 1)) ∧ (decode cX11_includes 3 = .ok (.iload_n 2, 1)) ∧ (decode cX11_includes 4 = .ok (.invokevirtual 219, 3)) ∧ (decode cX11_includes 7 = .ok (.iload_n 2, 1)) ∧ (decode cX11_includes 8 = .ok (.invokevirtual 327, 3)) ∧ (decode cX11_includes 11 = .ok (.istore_n 3, 1)) ∧ (decode cX11_includes 12 = .ok (.iload_n 3, 1)) ∧ (decode cX11_includes 13 = .ok (.ifCond .eq 9, 3)) ∧ (decode cX11_includes 16 = .ok (.aload_n 0, 1)) ∧ (decode cX11_includes 17 = .ok (.iload_n 3, 1)) := by decide +kernel
theorem dX11_includes_0 : decode cX11_includes 0 = .ok (.aload_n 0, 1) := dGR_17_c_508.1
theorem dX11_includes_1 : decode cX11_includes 1 = .ok (.aload_n 0, 1) := dGR_17_c_508.2.1
theorem dX11_includes_2 : decode cX11_includes 2 = .ok (.iload_n 1, 1) := dGR_17_c_508.2.2.1
theorem dX11_includes_3 : decode cX11_includes 3 = .ok (.iload_n 2, 1) := dGR_17_c_508.2.2.2.1
theorem dX11_includes_4 : decode cX11_includes 4 = .ok (.invokevirtual 219, 3) := dGR_17_c_508.2.2.2.2.1
theorem dX11_includes_7 : decode cX11_includes 7 = .ok (.iload_n 2, 1) := dGR_17_c_508.2.2.2.2.2.1
theorem dX11_includes_8 : decode cX11_includes 8 = .ok (.invokevirtual 327, 3) := dGR_17_c_508.2.2.2.2.2.2.1
theorem dX11_includes_11 : decode cX11_includes 11 = .ok (.istore_n 3, 1) := dGR_17_c_508.2.2.2.2.2.2.2.1
theorem dX11_includes_12 : decode cX11_includes 12 = .ok (.iload_n 3, 1) := dGR_17_c_508.2.2.2.2.2.2.2.2.1
theorem dX11_includes_13 : decode cX11_includes 13 = .ok (.ifCond .eq 9, 3) := dGR_17_c_508.2.2.2.2.2.2.2.2.2.1
theorem dX11_includes_16 : decode cX11_includes 16 = .ok (.aload_n 0, 1) := dGR_17_c_508.2.2.2.2.2.2.2.2.2.2.1
theorem dX11_includes_17 : decode cX11_includes 17 = .ok (.iload_n 3, 1) := dGR_17_c_508.2.2.2.2.2.2.2.2.2.2.2
set_option maxRecDepth 100000 in
theorem dGR_17_c_509 : (decode cX11_includes 18 = .ok (.invokevirtual 110, 3)) ∧ (decode cX11_includes 21 = .ok (.ireturn, 1)) ∧ (decode cX11_includes 22 = .ok (.aload_n 0, 1)) ∧ (decode cX11_includes 23 = .ok (.getfield 47, 3)) ∧ (decode cX11_includes 26 = .ok (.aload_n 0, 1)) ∧ (decode cX11_includes 27 = .ok (.getfield 26, 3)) ∧ (decode cX11_includes 30 = .ok (.iconst 2, 1)) ∧ (decode cX11_includes 31 = .ok (.iload_n 1, 1)) ∧ (decode cX11_includes 32 = .ok (.iload_n 2, 1)) ∧ (decode cX11_includes 33 = .ok (.invokevirtual 317, 3)) ∧ (decode cX11_includes 36 = .ok (.istore 4, 2)) ∧ (decode cX11_includes 38 = .ok (.aload_n 0, 1)) := by decide +kernel
theorem dX11_includes_18 : decode cX11_includes 18 = .ok (.invokevirtual 110, 3) := dGR_17_c_509.1
theorem dX11_includes_21 : decode cX11_includes 21 = .ok (.ireturn, 1) := dGR_17_c_509.2.1
theorem dX11_includes_22 : decode cX11_includes 22 = .ok (.aload_n 0, 1) := dGR_17_c_509.2.2.1
theorem dX11_includes_23 : decode cX11_includes 23 = .ok (.getfield 47, 3) := dGR_17_c_509.2.2.2.1
theorem dX11_includes_26 : decode cX11_includes 26 = .ok (.aload_n 0, 1) := dGR_17_c_509.2.2.2.2.1
theorem dX11_includes_27 : decode cX11_includes 27 = .ok (.getfield 26, 3) := dGR_17_c_509.2.2.2.2.2.1
theorem dX11_includes_30 : decode cX11_includes 30 = .ok (.iconst 2, 1) := dGR_17_c_509.2.2.2.2.2.2.1
theorem dX11_includes_31 : decode cX11_includes 31 = .ok (.iload_n 1, 1) := dGR_17_c_509.2.2.2.2.2.2.2.1
theorem dX11_includes_32 : decode cX11_includes 32 = .ok (.iload_n 2, 1) := dGR_17_c_509.2.2.2.2.2.2.2.2.1
theorem dX11_includes_33 : decode cX11_includes 33 = .ok (.invokevirtual 317, 3) := dGR_17_c_509.2.2.2.2.2.2.2.2.2.1
theorem dX11_includes_36 : decode cX11_includes 36 = .ok (.istore 4, 2) := dGR_17_c_509.2.2.2.2.2.2.2.2.2.2.1
theorem dX11_includes_38 : decode cX11_includes 38 = .ok (.aload_n 0, 1) := dGR_17_c_509.2.2.2.2.2.2.2.2.2.2.2
set_option maxRecDepth 100000 in
theorem dGR_17_c_510 : (decode cX11_includes 39 = .ok (.aload_n 0, 1)) ∧ (decode cX11_includes 40 = .ok (.getfield 47, 3)) ∧ (decode cX11_includes 43 = .ok (.getfield 331, 3)) ∧ (decode cX11_includes 46 = .ok (.iload 4, 2)) ∧ (decode cX11_includes 48 = .ok (.iaload, 1)) ∧ (decode cX11_includes 49 = .ok (.iconst (-1), 1)) ∧ (decode cX11_includes 50 = .ok (.if_icmp .ne 7, 3)) ∧ (decode cX11_includes 53 = .ok (.iconst 1, 1)) ∧ (decode cX11_includes 54 = .ok (.goto 4, 3)) ∧ (decode cX11_includes 57 = .ok (.iconst 0, 1)) ∧ (decode cX11_includes 58 = .ok (.invokevirtual 145, 3)) ∧ (decode cX11_includes 61 = .ok (.ireturn, 1)) := by decide +kernel
theorem dX11_includes_39 : decode cX11_includes 39 = .ok (.aload_n 0, 1) := dGR_17_c_510.1
theorem dX11_includes_40 : decode cX11_includes 40 = .ok (.getfield 47, 3) := dGR_17_c_510.2.1
theorem dX11_includes_43 : decode cX11_includes 43 = .ok (.getfield 331, 3) := dGR_17_c_510.2.2.1
theorem dX11_includes_46 : decode cX11_includes 46 = .ok (.iload 4, 2) := dGR_17_c_510.2.2.2.1
theorem dX11_includes_48 : decode cX11_includes 48 = .ok (.iaload, 1) := dGR_17_c_510.2.2.2.2.1
theorem dX11_includes_49 : decode cX11_includes 49 = .ok (.iconst (-1), 1) := dGR_17_c_510.2.2.2.2.2.1
theorem dX11_includes_50 : decode cX11_includes 50 = .ok (.if_icmp .ne 7, 3) := dGR_17_c_510.2.2.2.2.2.2.1
theorem dX11_includes_53 : decode cX11_includes 53 = .ok (.iconst 1, 1) := dGR_17_c_510.2.2.2.2.2.2.2.1
theorem dX11_includes_54 : decode cX11_includes 54 = .ok (.goto 4, 3) := dGR_17_c_510.2.2.2.2.2.2.2.2.1
theorem dX11_includes_57 : decode cX11_includes 57 = .ok (.iconst 0, 1) := dGR_17_c_510.2.2.2.2.2.2.2.2.2.1
theorem dX11_includes_58 : decode cX11_includes 58 = .ok (.invokevirtual 145, 3) := dGR_17_c_510.2.2.2.2.2.2.2.2.2.2.1
theorem dX11_includes_61 : decode cX11_includes 61 = .ok (.ireturn, 1) := dGR_17_c_510.2.2.2.2.2.2.2.2.2.2.2
set_option maxRecDepth 100000 in
theorem dGR_17_c_511 : (decode cX11_equal 0 = .ok (.aload_n 0, 1)) ∧ (decode cX11_equal 1 = .ok (.aload_n 0, 1)) ∧ (decode cX11_equal 2 = .ok (.iload_n 1, 1)) ∧ (decode cX11_equal 3 = .ok (.iload_n 2, 1)) ∧ (decode cX11_equal 4 = .ok (.invokevirtual 219, 3)) ∧ (decode cX11_equal 7 = .ok (.iload_n 2, 1)) ∧ (decode cX11_equal 8 = .ok (.invokevirtual 327, 3)) ∧ (decode cX11_equal 11 = .ok (.istore_n 3, 1)) ∧ (decode cX11_equal 12 = .ok (.iload_n 3, 1)) ∧ (decode cX11_equal 13 = .ok (.ifCond .ne 10, 3)) ∧ (decode cX11_equal 16 = .ok (.aload_n 0, 1)) ∧ (decode cX11_equal 17 = .ok (.iconst 1, 1)) := by decide +kernel
theorem dX11_equal_0 : decode cX11_equal 0 = .ok (.aload_n 0, 1) := dGR_17_c_511.1
theorem dX11_equal_1 : decode cX11_equal 1 = .ok (.aload_n 0, 1) := dGR_17_c_511.2.1
theorem dX11_equal_2 : decode cX11_equal 2 = .ok (.iload_n 1, 1) := dGR_17_c_511.2.2.1
theorem dX11_equal_3 : decode cX11_equal 3 = .ok (.iload_n 2, 1) := dGR_17_c_511.2.2.2.1
theorem dX11_equal_4 : decode cX11_equal 4 = .ok (.invokevirtual 219, 3) := dGR_17_c_511.2.2.2.2.1
theorem dX11_equal_7 : decode cX11_equal 7 = .ok (.iload_n 2, 1) := dGR_17_c_511.2.2.2.2.2.1
theorem dX11_equal_8 : decode cX11_equal 8 = .ok (.invokevirtual 327, 3) := dGR_17_c_511.2.2.2.2.2.2.1
theorem dX11_equal_11 : decode cX11_equal 11 = .ok (.istore_n 3, 1) := dGR_17_c_511.2.2.2.2.2.2.2.1
theorem dX11_equal_12 : decode cX11_equal 12 = .ok (.iload_n 3, 1) := dGR_17_c_511.2.2.2.2.2.2.2.2.1
theorem dX11_equal_13 : decode cX11_equal 13 = .ok (.ifCond .ne 10, 3) := dGR_17_c_511.2.2.2.2.2.2.2.2.2.1
theorem dX11_equal_16 : decode cX11_equal 16 = .ok (.aload_n 0, 1) := dGR_17_c_511.2.2.2.2.2.2.2.2.2.2.1
theorem dX11_equal_17 : decode cX11_equal 17 = .ok (.iconst 1, 1) := dGR_17_c_511.2.2.2.2.2.2.2.2.2.2.2
set_option maxRecDepth 100000 in
theorem dGR_17_c_512 : (decode cX11_equal 18 = .ok (.iload_n 1, 1)) ∧ (decode cX11_equal 19 = .ok (.invokevirtual 327, 3)) ∧ (decode cX11_equal 22 = .ok (.istore_n 3, 1)) ∧ (decode cX11_equal 23 = .ok (.iload_n 3, 1)) ∧ (decode cX11_equal 24 = .ok (.ifCond .eq 9, 3)) ∧ (decode cX11_equal 27 = .ok (.aload_n 0, 1)) ∧ (decode cX11_equal 28 = .ok (.iload_n 3, 1)) ∧ (decode cX11_equal 29 = .ok (.invokevirtual 110, 3)) ∧ (decode cX11_equal 32 = .ok (.ireturn, 1)) ∧ (decode cX11_equal 33 = .ok (.aload_n 0, 1)) ∧ (decode cX11_equal 34 = .ok (.getfield 47, 3)) ∧ (decode cX11_equal 37 = .ok (.aload_n 0, 1)) := by decide +kernel
theorem dX11_equal_18 : decode cX11_equal 18 = .ok (.iload_n 1, 1) := dGR_17_c_512.1
theorem dX11_equal_19 : decode cX11_equal 19 = .ok (.invokevirtual 327, 3) := dGR_17_c_512.2.1
theorem dX11_equal_22 : decode cX11_equal 22 = .ok (.istore_n 3, 1) := dGR_17_c_512.2.2.1
theorem dX11_equal_23 : decode cX11_equal 23 = .ok (.iload_n 3, 1) := dGR_17_c_512.2.2.2.1
theorem dX11_equal_24 : decode cX11_equal 24 = .ok (.ifCond .eq 9, 3) := dGR_17_c_512.2.2.2.2.1
theorem dX11_equal_27 : decode cX11_equal 27 = .ok (.aload_n 0, 1) := dGR_17_c_512.2.2.2.2.2.1
theorem dX11_equal_28 : decode cX11_equal 28 = .ok (.iload_n 3, 1) := dGR_17_c_512.2.2.2.2.2.2.1
theorem dX11_equal_29 : decode cX11_equal 29 = .ok (.invokevirtual 110, 3) := dGR_17_c_512.2.2.2.2.2.2.2.1
theorem dX11_equal_32 : decode cX11_equal 32 = .ok (.ireturn, 1) := dGR_17_c_512.2.2.2.2.2.2.2.2.1
theorem dX11_equal_33 : decode cX11_equal 33 = .ok (.aload_n 0, 1) := dGR_17_c_512.2.2.2.2.2.2.2.2.2.1
theorem dX11_equal_34 : decode cX11_equal 34 = .ok (.getfield 47, 3) := dGR_17_c_512.2.2.2.2.2.2.2.2.2.2.1
theorem dX11_equal_37 : decode cX11_equal 37 = .ok (.aload_n 0, 1) := dGR_17_c_512.2.2.2.2.2.2.2.2.2.2.2
set_option maxRecDepth 100000 in
theorem dGR_17_c_513 : (decode cX11_equal 38 = .ok (.getfield 26, 3)) ∧ (decode cX11_equal 41 = .ok (.iconst 2, 1)) ∧ (decode cX11_equal 42 = .ok (.iload_n 1, 1)) ∧ (decode cX11_equal 43 = .ok (.iload_n 2, 1)) ∧ (decode cX11_equal 44 = .ok (.invokevirtual 317, 3)) ∧ (decode cX11_equal 47 = .ok (.istore 4, 2)) ∧ (decode cX11_equal 49 = .ok (.aload_n 0, 1)) ∧ (decode cX11_equal 50 = .ok (.getfield 47, 3)) ∧ (decode cX11_equal 53 = .ok (.aload_n 0, 1)) ∧ (decode cX11_equal 54 = .ok (.getfield 26, 3)) ∧ (decode cX11_equal 57 = .ok (.iconst 2, 1)) ∧ (decode cX11_equal 58 = .ok (.iload_n 2, 1)) := by decide +kernel
theorem dX11_equal_38 : decode cX11_equal 38 = .ok (.getfield 26, 3) := dGR_17_c_513.1
theorem dX11_equal_41 : decode cX11_equal 41 = .ok (.iconst 2, 1) := dGR_17_c_513.2.1
theorem dX11_equal_42 : decode cX11_equal 42 = .ok (.iload_n 1, 1) := dGR_17_c_513.2.2.1
theorem dX11_equal_43 : decode cX11_equal 43 = .ok (.iload_n 2, 1) := dGR_17_c_513.2.2.2.1
theorem dX11_equal_44 : decode cX11_equal 44 = .ok (.invokevirtual 317, 3) := dGR_17_c_513.2.2.2.2.1
theorem dX11_equal_47 : decode cX11_equal 47 = .ok (.istore 4, 2) := dGR_17_c_513.2.2.2.2.2.1
theorem dX11_equal_49 : decode cX11_equal 49 = .ok (.aload_n 0, 1) := dGR_17_c_513.2.2.2.2.2.2.1
theorem dX11_equal_50 : decode cX11_equal 50 = .ok (.getfield 47, 3) := dGR_17_c_513.2.2.2.2.2.2.2.1
theorem dX11_equal_53 : decode cX11_equal 53 = .ok (.aload_n 0, 1) := dGR_17_c_513.2.2.2.2.2.2.2.2.1
theorem dX11_equal_54 : decode cX11_equal 54 = .ok (.getfield 26, 3) := dGR_17_c_513.2.2.2.2.2.2.2.2.2.1
theorem dX11_equal_57 : decode cX11_equal 57 = .ok (.iconst 2, 1) := dGR_17_c_513.2.2.2.2.2.2.2.2.2.2.1
theorem dX11_equal_58 : decode cX11_equal 58 = .ok (.iload_n 2, 1) := dGR_17_c_513.2.2.2.2.2.2.2.2.2.2.2
set_option maxRecDepth 100000 in
theorem dGR_17_c_514 : (decode cX11_equal 59 = .ok (.iload_n 1, 1)) ∧ (decode cX11_equal 60 = .ok (.invokevirtual 317, 3)) ∧ (decode cX11_equal 63 = .ok (.istore 5, 2)) ∧ (decode cX11_equal 65 = .ok (.aload_n 0, 1)) ∧ (decode cX11_equal 66 = .ok (.aload_n 0, 1)) ∧ (decode cX11_equal 67 = .ok (.getfield 47, 3)) ∧ (decode cX11_equal 70 = .ok (.getfield 331, 3)) ∧ (decode cX11_equal 73 = .ok (.iload 4, 2)) ∧ (decode cX11_equal 75 = .ok (.iaload, 1)) ∧ (decode cX11_equal 76 = .ok (.iconst (-1), 1)) ∧ (decode cX11_equal 77 = .ok (.if_icmp .ne 21, 3)) ∧ (decode cX11_equal 80 = .ok (.aload_n 0, 1)) := by decide +kernel
theorem dX11_equal_59 : decode cX11_equal 59 = .ok (.iload_n 1, 1) := dGR_17_c_514.1
theorem dX11_equal_60 : decode cX11_equal 60 = .ok (.invokevirtual 317, 3) := dGR_17_c_514.2.1
theorem dX11_equal_63 : decode cX11_equal 63 = .ok (.istore 5, 2) := dGR_17_c_514.2.2.1
theorem dX11_equal_65 : decode cX11_equal 65 = .ok (.aload_n 0, 1) := dGR_17_c_514.2.2.2.1
theorem dX11_equal_66 : decode cX11_equal 66 = .ok (.aload_n 0, 1) := dGR_17_c_514.2.2.2.2.1
theorem dX11_equal_67 : decode cX11_equal 67 = .ok (.getfield 47, 3) := dGR_17_c_514.2.2.2.2.2.1
theorem dX11_equal_70 : decode cX11_equal 70 = .ok (.getfield 331, 3) := dGR_17_c_514.2.2.2.2.2.2.1
theorem dX11_equal_73 : decode cX11_equal 73 = .ok (.iload 4, 2) := dGR_17_c_514.2.2.2.2.2.2.2.1
theorem dX11_equal_75 : decode cX11_equal 75 = .ok (.iaload, 1) := dGR_17_c_514.2.2.2.2.2.2.2.2.1
theorem dX11_equal_76 : decode cX11_equal 76 = .ok (.iconst (-1), 1) := dGR_17_c_514.2.2.2.2.2.2.2.2.2.1
theorem dX11_equal_77 : decode cX11_equal 77 = .ok (.if_icmp .ne 21, 3) := dGR_17_c_514.2.2.2.2.2.2.2.2.2.2.1
theorem dX11_equal_80 : decode cX11_equal 80 = .ok (.aload_n 0, 1) := dGR_17_c_514.2.2.2.2.2.2.2.2.2.2.2
set_option maxRecDepth 100000 in
theorem dGR_17_c_515 : (decode cX11_equal 81 = .ok (.getfield 47, 3)) ∧ (decode cX11_equal 84 = .ok (.getfield 331, 3)) ∧ (decode cX11_equal 87 = .ok (.iload 5, 2)) ∧ (decode cX11_equal 89 = .ok (.iaload, 1)) ∧ (decode cX11_equal 90 = .ok (.iconst (-1), 1)) ∧ (decode cX11_equal 91 = .ok (.if_icmp .ne 7, 3)) ∧ (decode cX11_equal 94 = .ok (.iconst 1, 1)) ∧ (decode cX11_equal 95 = .ok (.goto 4, 3)) ∧ (decode cX11_equal 98 = .ok (.iconst 0, 1)) ∧ (decode cX11_equal 99 = .ok (.invokevirtual 145, 3)) ∧ (decode cX11_equal 102 = .ok (.ireturn, 1)) := by decide +kernel
theorem dX11_equal_81 : decode cX11_equal 81 = .ok (.getfield 47, 3) := dGR_17_c_515.1
theorem dX11_equal_84 : decode cX11_equal 84 = .ok (.getfield 331, 3) := dGR_17_c_515.2.1
theorem dX11_equal_87 : decode cX11_equal 87 = .ok (.iload 5, 2) := dGR_17_c_515.2.2.1
theorem dX11_equal_89 : decode cX11_equal 89 = .ok (.iaload, 1) := dGR_17_c_515.2.2.2.1
theorem dX11_equal_90 : decode cX11_equal 90 = .ok (.iconst (-1), 1) := dGR_17_c_515.2.2.2.2.1
theorem dX11_equal_91 : decode cX11_equal 91 = .ok (.if_icmp .ne 7, 3) := dGR_17_c_515.2.2.2.2.2.1
theorem dX11_equal_94 : decode cX11_equal 94 = .ok (.iconst 1, 1) := dGR_17_c_515.2.2.2.2.2.2.1
theorem dX11_equal_95 : decode cX11_equal 95 = .ok (.goto 4, 3) := dGR_17_c_515.2.2.2.2.2.2.2.1
theorem dX11_equal_98 : decode cX11_equal 98 = .ok (.iconst 0, 1) := dGR_17_c_515.2.2.2.2.2.2.2.2.1
theorem dX11_equal_99 : decode cX11_equal 99 = .ok (.invokevirtual 145, 3) := dGR_17_c_515.2.2.2.2.2.2.2.2.2.1
theorem dX11_equal_102 : decode cX11_equal 102 = .ok (.ireturn, 1) := dGR_17_c_515.2.2.2.2.2.2.2.2.2.2
set_option maxRecDepth 100000 in
theorem dGR_17_c_516 : (decode cX11_count 0 = .ok (.aload_n 0, 1)) ∧ (decode cX11_count 1 = .ok (.getfield 26, 3)) ∧ (decode cX11_count 4 = .ok (.iload_n 1, 1)) ∧ (decode cX11_count 5 = .ok (.invokevirtual 163, 3)) ∧ (decode cX11_count 8 = .ok (.ifCond .eq 13, 3)) ∧ (decode cX11_count 11 = .ok (.iload_n 2, 1)) ∧ (decode cX11_count 12 = .ok (.iconst 0, 1)) ∧ (decode cX11_count 13 = .ok (.bipush 6, 2)) ∧ (decode cX11_count 15 = .ok (.invokestatic 87, 3)) ∧ (decode cX11_count 18 = .ok (.ifCond .ne 9, 3)) ∧ (decode cX11_count 21 = .ok (.aload_n 0, 1)) ∧ (decode cX11_count 22 = .ok (.iconst 1, 1)) := by decide +kernel
theorem dX11_count_0 : decode cX11_count 0 = .ok (.aload_n 0, 1) := dGR_17_c_516.1
theorem dX11_count_1 : decode cX11_count 1 = .ok (.getfield 26, 3) := dGR_17_c_516.2.1
theorem dX11_count_4 : decode cX11_count 4 = .ok (.iload_n 1, 1) := dGR_17_c_516.2.2.1
theorem dX11_count_5 : decode cX11_count 5 = .ok (.invokevirtual 163, 3) := dGR_17_c_516.2.2.2.1
theorem dX11_count_8 : decode cX11_count 8 = .ok (.ifCond .eq 13, 3) := dGR_17_c_516.2.2.2.2.1
theorem dX11_count_11 : decode cX11_count 11 = .ok (.iload_n 2, 1) := dGR_17_c_516.2.2.2.2.2.1
theorem dX11_count_12 : decode cX11_count 12 = .ok (.iconst 0, 1) := dGR_17_c_516.2.2.2.2.2.2.1
theorem dX11_count_13 : decode cX11_count 13 = .ok (.bipush 6, 2) := dGR_17_c_516.2.2.2.2.2.2.2.1
theorem dX11_count_15 : decode cX11_count 15 = .ok (.invokestatic 87, 3) := dGR_17_c_516.2.2.2.2.2.2.2.2.1
theorem dX11_count_18 : decode cX11_count 18 = .ok (.ifCond .ne 9, 3) := dGR_17_c_516.2.2.2.2.2.2.2.2.2.1
theorem dX11_count_21 : decode cX11_count 21 = .ok (.aload_n 0, 1) := dGR_17_c_516.2.2.2.2.2.2.2.2.2.2.1
theorem dX11_count_22 : decode cX11_count 22 = .ok (.iconst 1, 1) := dGR_17_c_516.2.2.2.2.2.2.2.2.2.2.2
set_option maxRecDepth 100000 in
theorem dGR_17_c_517 : (decode cX11_count 23 = .ok (.invokevirtual 110, 3)) ∧ (decode cX11_count 26 = .ok (.ireturn, 1)) ∧ (decode cX11_count 27 = .ok (.aload_n 0, 1)) ∧ (decode cX11_count 28 = .ok (.getfield 26, 3)) ∧ (decode cX11_count 31 = .ok (.iload_n 1, 1)) ∧ (decode cX11_count 32 = .ok (.invokevirtual 164, 3)) ∧ (decode cX11_count 35 = .ok (.astore_n 3, 1)) ∧ (decode cX11_count 36 = .ok (.aload_n 0, 1)) ∧ (decode cX11_count 37 = .ok (.getfield 54, 3)) ∧ (decode cX11_count 40 = .ok (.aload_n 0, 1)) ∧ (decode cX11_count 41 = .ok (.getfield 26, 3)) ∧ (decode cX11_count 44 = .ok (.aload_n 3, 1)) := by decide +kernel
theorem dX11_count_23 : decode cX11_count 23 = .ok (.invokevirtual 110, 3) := dGR_17_c_517.1
theorem dX11_count_26 : decode cX11_count 26 = .ok (.ireturn, 1) := dGR_17_c_517.2.1
theorem dX11_count_27 : decode cX11_count 27 = .ok (.aload_n 0, 1) := dGR_17_c_517.2.2.1
theorem dX11_count_28 : decode cX11_count 28 = .ok (.getfield 26, 3) := dGR_17_c_517.2.2.2.1
theorem dX11_count_31 : decode cX11_count 31 = .ok (.iload_n 1, 1) := dGR_17_c_517.2.2.2.2.1
theorem dX11_count_32 : decode cX11_count 32 = .ok (.invokevirtual 164, 3) := dGR_17_c_517.2.2.2.2.2.1
theorem dX11_count_35 : decode cX11_count 35 = .ok (.astore_n 3, 1) := dGR_17_c_517.2.2.2.2.2.2.1
theorem dX11_count_36 : decode cX11_count 36 = .ok (.aload_n 0, 1) := dGR_17_c_517.2.2.2.2.2.2.2.1
theorem dX11_count_37 : decode cX11_count 37 = .ok (.getfield 54, 3) := dGR_17_c_517.2.2.2.2.2.2.2.2.1
theorem dX11_count_40 : decode cX11_count 40 = .ok (.aload_n 0, 1) := dGR_17_c_517.2.2.2.2.2.2.2.2.2.1
theorem dX11_count_41 : decode cX11_count 41 = .ok (.getfield 26, 3) := dGR_17_c_517.2.2.2.2.2.2.2.2.2.2.1
theorem dX11_count_44 : decode cX11_count 44 = .ok (.aload_n 3, 1) := dGR_17_c_517.2.2.2.2.2.2.2.2.2.2.2
set_option maxRecDepth 100000 in
theorem dGR_17_c_518 : (decode cX11_count 45 = .ok (.iload_n 2, 1)) ∧ (decode cX11_count 46 = .ok (.invokevirtual 334, 3)) ∧ (decode cX11_count 49 = .ok (.aload_n 0, 1)) ∧ (decode cX11_count 50 = .ok (.aload_n 0, 1)) ∧ (decode cX11_count 51 = .ok (.getfield 54, 3)) ∧ (decode cX11_count 54 = .ok (.aload_n 3, 1)) ∧ (decode cX11_count 55 = .ok (.iload_n 2, 1)) ∧ (decode cX11_count 56 = .ok (.invokevirtual 338, 3)) ∧ (decode cX11_count 59 = .ok (.invokevirtual 145, 3)) ∧ (decode cX11_count 62 = .ok (.ireturn, 1)) := by decide +kernel
theorem dX11_count_45 : decode cX11_count 45 = .ok (.iload_n 2, 1) := dGR_17_c_518.1
theorem dX11_count_46 : decode cX11_count 46 = .ok (.invokevirtual 334, 3) := dGR_17_c_518.2.1
theorem dX11_count_49 : decode cX11_count 49 = .ok (.aload_n 0, 1) := dGR_17_c_518.2.2.1
theorem dX11_count_50 : decode cX11_count 50 = .ok (.aload_n 0, 1) := dGR_17_c_518.2.2.2.1
theorem dX11_count_51 : decode cX11_count 51 = .ok (.getfield 54, 3) := dGR_17_c_518.2.2.2.2.1
theorem dX11_count_54 : decode cX11_count 54 = .ok (.aload_n 3, 1) := dGR_17_c_518.2.2.2.2.2.1
theorem dX11_count_55 : decode cX11_count 55 = .ok (.iload_n 2, 1) := dGR_17_c_518.2.2.2.2.2.2.1
theorem dX11_count_56 : decode cX11_count 56 = .ok (.invokevirtual 338, 3) := dGR_17_c_518.2.2.2.2.2.2.2.1
theorem dX11_count_59 : decode cX11_count 59 = .ok (.invokevirtual 145, 3) := dGR_17_c_518.2.2.2.2.2.2.2.2.1
theorem dX11_count_62 : decode cX11_count 62 = .ok (.ireturn, 1) := dGR_17_c_518.2.2.2.2.2.2.2.2.2
abbrev f_c_X11_count : List (Nat × Int) := [(47, 0), (47, 1), (47, 2), (47, 3), (47, 7), (48, -1), (49, -1), (50, -1), (51, -1), (52, -1), (53, -1), (54, -1), (55, -1), (62, 0)]
set_option maxHeartbeats 4000000 in
set_option maxRecDepth 100000 in
theorem c_X11_count (G : KG) (l : Launch) (M : Mem) (c0 : Int) (a1 : Int) (a2 : Int) (hI_M : Inv false M) (hk_c0 : kd c0 = 62) (hpre : -2147483648 ≤ a1 ∧ a1 ≤ 2147483647 ∧ -2147483648 ≤ a2 ∧ a2 ≤ 2147483647) : KC false G l yX11_count cX11_count 4 (some .int) (5, 123) [vR G c0, vI a1, vI a2] M (fun A => kQi false G A (fun (r : Int) (N : Mem) => Inv false N ∧ Fr f_c_X11_count M N ∧ (r ≥ -2147483648 ∧ r ≤ 2147483647))) := by
  refine kx_met (lo := [some (vR G c0), some (vI a1), some (vI a2), none]) (by decide) (Nat.le_of_ble_eq_true rfl) rfl ?_
  intro X F hQ
  have hF_M : Fr f_c_X11_count M M := Fr.rf _ _
  refine kx_aload_n 1 F 0 dX11_count_0 rfl rfl rfl ?_
  refine kx_getr 4 F fl_X11_26 hk_c0 rfl rfl (j := 5) rfl dX11_count_1 (v := (M c0 5)) rfl rfl ?_
  have hk_1 : kd (M c0 5) = 12 := Inv.r hI_M hk_c0 rfl 5 rfl rfl
  refine kx_iload_n 5 F 1 dX11_count_4 rfl rfl rfl ?_
  refine kx_Vi 8 (ci := 0) F (As := [vI a1]) (st := []) vd_X11_163 (c_X5_has G l M (M c0 5) a1 hI_M hk_1 (by omega)) hk_1 rfl rfl rfl ⟨by decide, by decide⟩ rfl rfl (Nat.le_of_ble_eq_true rfl) dX11_count_5 rfl ?_
  intro r_2 N_3 q_4
  obtain ⟨rfl, q_4c⟩ := q_4
  have h_5 := Inv.g hI_M hk_1 rfl 3 (a := 0) (b := 2) rfl rfl
  rcases q_4c with q_4c | q_4c
  · refine kx_if_eq 11 F 21 dX11_count_8 (by decide) rfl (by omega) (fun h_6 => (by exfalso; omega)) (fun h_6 => ?_)
    refine kx_iload_n 12 F 2 dX11_count_11 rfl rfl rfl ?_
    refine kx_iconst 13 F dX11_count_12 rfl ?_
    refine kx_bipush 15 F dX11_count_13 (by decide) rfl ?_
    refine kx_Si 18 F (As := [vI a2, vI 0, vI 6]) (st := []) sd_X11_87 (c_X11_within G l M a2 0 6 hI_M (by omega)) ⟨by decide, by decide⟩ rfl rfl (Nat.le_of_ble_eq_true rfl) dX11_count_15 rfl ?_
    intro r_7 N_8 q_9
    obtain ⟨rfl, q_9c⟩ := q_9
    rcases q_9c with q_9c | q_9c
    · refine kx_if_ne 21 F 27 dX11_count_18 (by decide) rfl (by omega) (fun h_10 => ?_) (fun h_10 => (by exfalso; omega))
      refine kx_aload_n 28 F 0 dX11_count_27 rfl rfl rfl ?_
      refine kx_getr 31 F fl_X11_26 hk_c0 rfl rfl (j := 5) rfl dX11_count_28 (v := (M c0 5)) rfl rfl ?_
      refine kx_iload_n 32 F 1 dX11_count_31 rfl rfl rfl ?_
      refine kx_Vr 35 (ci := 0) F (As := [vI a1]) (st := []) vd_X11_164 (c_X5_pick G l M (M c0 5) a1 hI_M hk_1 (by omega)) hk_1 rfl rfl rfl ⟨by decide, by decide⟩ rfl rfl (Nat.le_of_ble_eq_true rfl) dX11_count_32 rfl ?_
      intro r_11 N_12 q_13
      obtain ⟨rfl, hk_14⟩ := q_13
      refine kx_astore_n 36 F 3 (lo' := [some (vR G c0), some (vI a1), some (vI a2), some (vR G r_11)]) dX11_count_35 rfl (by decide) rfl rfl rfl ?_
      refine kx_aload_n 37 F 0 dX11_count_36 rfl rfl rfl ?_
      refine kx_getr 40 F fl_X11_54 hk_c0 rfl rfl (j := 11) rfl dX11_count_37 (v := (M c0 11)) rfl rfl ?_
      have hk_15 : kd (M c0 11) = 47 := Inv.r hI_M hk_c0 rfl 11 rfl rfl
      refine kx_aload_n 41 F 0 dX11_count_40 rfl rfl rfl ?_
      refine kx_getr 44 F fl_X11_26 hk_c0 rfl rfl (j := 5) rfl dX11_count_41 (v := (M c0 5)) rfl rfl ?_
      refine kx_aload_n 45 F 3 dX11_count_44 rfl rfl rfl ?_
      refine kx_iload_n 46 F 2 dX11_count_45 rfl rfl rfl ?_
      refine kx_Vv 49 (ci := 0) F (As := [vR G (M c0 5), vR G r_11, vI a2]) (st := []) vd_X11_334 (c_X8_reckon G l M (M c0 11) (M c0 5) r_11 a2 hI_M hk_15 hk_1 hk_14 (by omega)) hk_15 rfl rfl rfl ⟨by decide, by decide⟩ rfl rfl (Nat.le_of_ble_eq_true rfl) dX11_count_46 rfl ?_
      intro N_16 q_17
      obtain ⟨hI_N_16, hG_N_16⟩ := q_17
      have hF_N_16 : Fr f_c_X11_count M N_16 := Fr.c hF_M hG_N_16 rfl
      refine kx_aload_n 50 F 0 dX11_count_49 rfl rfl rfl ?_
      refine kx_aload_n 51 F 0 dX11_count_50 rfl rfl rfl ?_
      refine kx_getr 54 F fl_X11_54 hk_c0 rfl rfl (j := 11) rfl dX11_count_51 (v := (M c0 11)) (by rw [Fr.e hG_N_16 hk_c0 _ rfl]) rfl ?_
      refine kx_aload_n 55 F 3 dX11_count_54 rfl rfl rfl ?_
      refine kx_iload_n 56 F 2 dX11_count_55 rfl rfl rfl ?_
      refine kx_Vi 59 (ci := 0) F (As := [vR G r_11, vI a2]) (st := [vR G c0]) vd_X11_338 (c_X8_taken G l N_16 (M c0 11) r_11 a2 hI_N_16 hk_15 hk_14 (by omega)) hk_15 rfl rfl rfl ⟨by decide, by decide⟩ rfl rfl (Nat.le_of_ble_eq_true rfl) dX11_count_56 rfl ?_
      intro r_18 N_19 q_20
      obtain ⟨rfl, q_20c⟩ := q_20
      refine kx_Vi 62 (ci := 0) F (As := [vI r_18]) (st := []) vd_X11_145 (c_X11_answer G l N_16 c0 r_18 hI_N_16 hk_c0 (by omega)) hk_c0 rfl rfl rfl ⟨by decide, by decide⟩ rfl rfl (Nat.le_of_ble_eq_true rfl) dX11_count_59 rfl ?_
      intro r_21 N_22 q_23
      obtain ⟨hI_N_22, hG_N_22, q_23c⟩ := q_23
      have hF_N_22 : Fr f_c_X11_count M N_22 := Fr.c hF_N_16 hG_N_22 rfl
      exact kx_iret F hQ ⟨hI_N_22, hF_N_22, (by omega)⟩ dX11_count_62
    · refine kx_if_ne 21 F 27 dX11_count_18 (by decide) rfl (by omega) (fun h_24 => (by exfalso; omega)) (fun h_24 => ?_)
      refine kx_aload_n 22 F 0 dX11_count_21 rfl rfl rfl ?_
      refine kx_iconst 23 F dX11_count_22 rfl ?_
      refine kx_Vi 26 (ci := 0) F (As := [vI 1]) (st := []) vd_X11_110 (c_X11_refuse G l M c0 1 hI_M hk_c0 (by omega)) hk_c0 rfl rfl rfl ⟨by decide, by decide⟩ rfl rfl (Nat.le_of_ble_eq_true rfl) dX11_count_23 rfl ?_
      intro r_25 N_26 q_27
      obtain ⟨hI_N_26, hG_N_26, q_27c⟩ := q_27
      have hF_N_26 : Fr f_c_X11_count M N_26 := Fr.c hF_M hG_N_26 rfl
      subst q_27c
      exact kx_iret F hQ ⟨hI_N_26, hF_N_26, (by omega)⟩ dX11_count_26
  · refine kx_if_eq 11 F 21 dX11_count_8 (by decide) rfl (by omega) (fun h_28 => ?_) (fun h_28 => (by exfalso; omega))
    refine kx_aload_n 22 F 0 dX11_count_21 rfl rfl rfl ?_
    refine kx_iconst 23 F dX11_count_22 rfl ?_
    refine kx_Vi 26 (ci := 0) F (As := [vI 1]) (st := []) vd_X11_110 (c_X11_refuse G l M c0 1 hI_M hk_c0 (by omega)) hk_c0 rfl rfl rfl ⟨by decide, by decide⟩ rfl rfl (Nat.le_of_ble_eq_true rfl) dX11_count_23 rfl ?_
    intro r_29 N_30 q_31
    obtain ⟨hI_N_30, hG_N_30, q_31c⟩ := q_31
    have hF_N_30 : Fr f_c_X11_count M N_30 := Fr.c hF_M hG_N_30 rfl
    subst q_31c
    exact kx_iret F hQ ⟨hI_N_30, hF_N_30, (by omega)⟩ dX11_count_26
set_option maxRecDepth 100000 in
theorem dGR_17_c_519 : (decode cX11_share 0 = .ok (.aload_n 0, 1)) ∧ (decode cX11_share 1 = .ok (.getfield 26, 3)) ∧ (decode cX11_share 4 = .ok (.iload_n 1, 1)) ∧ (decode cX11_share 5 = .ok (.invokevirtual 163, 3)) ∧ (decode cX11_share 8 = .ok (.ifCond .eq 13, 3)) ∧ (decode cX11_share 11 = .ok (.iload_n 2, 1)) ∧ (decode cX11_share 12 = .ok (.iconst 0, 1)) ∧ (decode cX11_share 13 = .ok (.bipush 6, 2)) ∧ (decode cX11_share 15 = .ok (.invokestatic 87, 3)) ∧ (decode cX11_share 18 = .ok (.ifCond .ne 9, 3)) ∧ (decode cX11_share 21 = .ok (.aload_n 0, 1)) ∧ (decode cX11_share 22 = .ok (.iconst 1, 1)) := by decide +kernel
theorem dX11_share_0 : decode cX11_share 0 = .ok (.aload_n 0, 1) := dGR_17_c_519.1
theorem dX11_share_1 : decode cX11_share 1 = .ok (.getfield 26, 3) := dGR_17_c_519.2.1
theorem dX11_share_4 : decode cX11_share 4 = .ok (.iload_n 1, 1) := dGR_17_c_519.2.2.1
theorem dX11_share_5 : decode cX11_share 5 = .ok (.invokevirtual 163, 3) := dGR_17_c_519.2.2.2.1
theorem dX11_share_8 : decode cX11_share 8 = .ok (.ifCond .eq 13, 3) := dGR_17_c_519.2.2.2.2.1
theorem dX11_share_11 : decode cX11_share 11 = .ok (.iload_n 2, 1) := dGR_17_c_519.2.2.2.2.2.1
theorem dX11_share_12 : decode cX11_share 12 = .ok (.iconst 0, 1) := dGR_17_c_519.2.2.2.2.2.2.1
theorem dX11_share_13 : decode cX11_share 13 = .ok (.bipush 6, 2) := dGR_17_c_519.2.2.2.2.2.2.2.1
theorem dX11_share_15 : decode cX11_share 15 = .ok (.invokestatic 87, 3) := dGR_17_c_519.2.2.2.2.2.2.2.2.1
theorem dX11_share_18 : decode cX11_share 18 = .ok (.ifCond .ne 9, 3) := dGR_17_c_519.2.2.2.2.2.2.2.2.2.1
theorem dX11_share_21 : decode cX11_share 21 = .ok (.aload_n 0, 1) := dGR_17_c_519.2.2.2.2.2.2.2.2.2.2.1
theorem dX11_share_22 : decode cX11_share 22 = .ok (.iconst 1, 1) := dGR_17_c_519.2.2.2.2.2.2.2.2.2.2.2
set_option maxRecDepth 100000 in
theorem dGR_17_c_520 : (decode cX11_share 23 = .ok (.invokevirtual 91, 3)) ∧ (decode cX11_share 26 = .ok (.ireturn, 1)) ∧ (decode cX11_share 27 = .ok (.aload_n 0, 1)) ∧ (decode cX11_share 28 = .ok (.getfield 26, 3)) ∧ (decode cX11_share 31 = .ok (.getfield 160, 3)) ∧ (decode cX11_share 34 = .ok (.ifCond .ne 14, 3)) ∧ (decode cX11_share 37 = .ok (.iload_n 2, 1)) ∧ (decode cX11_share 38 = .ok (.ifCond .le 10, 3)) ∧ (decode cX11_share 41 = .ok (.aload_n 0, 1)) ∧ (decode cX11_share 42 = .ok (.bipush 6, 2)) ∧ (decode cX11_share 44 = .ok (.invokevirtual 91, 3)) ∧ (decode cX11_share 47 = .ok (.ireturn, 1)) := by decide +kernel
theorem dX11_share_23 : decode cX11_share 23 = .ok (.invokevirtual 91, 3) := dGR_17_c_520.1
theorem dX11_share_26 : decode cX11_share 26 = .ok (.ireturn, 1) := dGR_17_c_520.2.1
theorem dX11_share_27 : decode cX11_share 27 = .ok (.aload_n 0, 1) := dGR_17_c_520.2.2.1
theorem dX11_share_28 : decode cX11_share 28 = .ok (.getfield 26, 3) := dGR_17_c_520.2.2.2.1
theorem dX11_share_31 : decode cX11_share 31 = .ok (.getfield 160, 3) := dGR_17_c_520.2.2.2.2.1
theorem dX11_share_34 : decode cX11_share 34 = .ok (.ifCond .ne 14, 3) := dGR_17_c_520.2.2.2.2.2.1
theorem dX11_share_37 : decode cX11_share 37 = .ok (.iload_n 2, 1) := dGR_17_c_520.2.2.2.2.2.2.1
theorem dX11_share_38 : decode cX11_share 38 = .ok (.ifCond .le 10, 3) := dGR_17_c_520.2.2.2.2.2.2.2.1
theorem dX11_share_41 : decode cX11_share 41 = .ok (.aload_n 0, 1) := dGR_17_c_520.2.2.2.2.2.2.2.2.1
theorem dX11_share_42 : decode cX11_share 42 = .ok (.bipush 6, 2) := dGR_17_c_520.2.2.2.2.2.2.2.2.2.1
theorem dX11_share_44 : decode cX11_share 44 = .ok (.invokevirtual 91, 3) := dGR_17_c_520.2.2.2.2.2.2.2.2.2.2.1
theorem dX11_share_47 : decode cX11_share 47 = .ok (.ireturn, 1) := dGR_17_c_520.2.2.2.2.2.2.2.2.2.2.2
set_option maxRecDepth 100000 in
theorem dGR_17_c_521 : (decode cX11_share 48 = .ok (.aload_n 0, 1)) ∧ (decode cX11_share 49 = .ok (.getfield 26, 3)) ∧ (decode cX11_share 52 = .ok (.iload_n 1, 1)) ∧ (decode cX11_share 53 = .ok (.invokevirtual 164, 3)) ∧ (decode cX11_share 56 = .ok (.astore_n 3, 1)) ∧ (decode cX11_share 57 = .ok (.aload_n 0, 1)) ∧ (decode cX11_share 58 = .ok (.getfield 54, 3)) ∧ (decode cX11_share 61 = .ok (.aload_n 0, 1)) ∧ (decode cX11_share 62 = .ok (.getfield 26, 3)) ∧ (decode cX11_share 65 = .ok (.aload_n 3, 1)) ∧ (decode cX11_share 66 = .ok (.iload_n 2, 1)) ∧ (decode cX11_share 67 = .ok (.invokevirtual 334, 3)) := by decide +kernel
theorem dX11_share_48 : decode cX11_share 48 = .ok (.aload_n 0, 1) := dGR_17_c_521.1
theorem dX11_share_49 : decode cX11_share 49 = .ok (.getfield 26, 3) := dGR_17_c_521.2.1
theorem dX11_share_52 : decode cX11_share 52 = .ok (.iload_n 1, 1) := dGR_17_c_521.2.2.1
theorem dX11_share_53 : decode cX11_share 53 = .ok (.invokevirtual 164, 3) := dGR_17_c_521.2.2.2.1
theorem dX11_share_56 : decode cX11_share 56 = .ok (.astore_n 3, 1) := dGR_17_c_521.2.2.2.2.1
theorem dX11_share_57 : decode cX11_share 57 = .ok (.aload_n 0, 1) := dGR_17_c_521.2.2.2.2.2.1
theorem dX11_share_58 : decode cX11_share 58 = .ok (.getfield 54, 3) := dGR_17_c_521.2.2.2.2.2.2.1
theorem dX11_share_61 : decode cX11_share 61 = .ok (.aload_n 0, 1) := dGR_17_c_521.2.2.2.2.2.2.2.1
theorem dX11_share_62 : decode cX11_share 62 = .ok (.getfield 26, 3) := dGR_17_c_521.2.2.2.2.2.2.2.2.1
theorem dX11_share_65 : decode cX11_share 65 = .ok (.aload_n 3, 1) := dGR_17_c_521.2.2.2.2.2.2.2.2.2.1
theorem dX11_share_66 : decode cX11_share 66 = .ok (.iload_n 2, 1) := dGR_17_c_521.2.2.2.2.2.2.2.2.2.2.1
theorem dX11_share_67 : decode cX11_share 67 = .ok (.invokevirtual 334, 3) := dGR_17_c_521.2.2.2.2.2.2.2.2.2.2.2
set_option maxRecDepth 100000 in
theorem dGR_17_c_522 : (decode cX11_share 70 = .ok (.aload_n 0, 1)) ∧ (decode cX11_share 71 = .ok (.aload_n 0, 1)) ∧ (decode cX11_share 72 = .ok (.getfield 54, 3)) ∧ (decode cX11_share 75 = .ok (.aload_n 3, 1)) ∧ (decode cX11_share 76 = .ok (.iload_n 2, 1)) ∧ (decode cX11_share 77 = .ok (.invokevirtual 338, 3)) ∧ (decode cX11_share 80 = .ok (.i2l, 1)) ∧ (decode cX11_share 81 = .ok (.aload_n 0, 1)) ∧ (decode cX11_share 82 = .ok (.getfield 26, 3)) ∧ (decode cX11_share 85 = .ok (.getfield 160, 3)) ∧ (decode cX11_share 88 = .ok (.iload_n 2, 1)) ∧ (decode cX11_share 89 = .ok (.invokestatic 342, 3)) := by decide +kernel
theorem dX11_share_70 : decode cX11_share 70 = .ok (.aload_n 0, 1) := dGR_17_c_522.1
theorem dX11_share_71 : decode cX11_share 71 = .ok (.aload_n 0, 1) := dGR_17_c_522.2.1
theorem dX11_share_72 : decode cX11_share 72 = .ok (.getfield 54, 3) := dGR_17_c_522.2.2.1
theorem dX11_share_75 : decode cX11_share 75 = .ok (.aload_n 3, 1) := dGR_17_c_522.2.2.2.1
theorem dX11_share_76 : decode cX11_share 76 = .ok (.iload_n 2, 1) := dGR_17_c_522.2.2.2.2.1
theorem dX11_share_77 : decode cX11_share 77 = .ok (.invokevirtual 338, 3) := dGR_17_c_522.2.2.2.2.2.1
theorem dX11_share_80 : decode cX11_share 80 = .ok (.i2l, 1) := dGR_17_c_522.2.2.2.2.2.2.1
theorem dX11_share_81 : decode cX11_share 81 = .ok (.aload_n 0, 1) := dGR_17_c_522.2.2.2.2.2.2.2.1
theorem dX11_share_82 : decode cX11_share 82 = .ok (.getfield 26, 3) := dGR_17_c_522.2.2.2.2.2.2.2.2.1
theorem dX11_share_85 : decode cX11_share 85 = .ok (.getfield 160, 3) := dGR_17_c_522.2.2.2.2.2.2.2.2.2.1
theorem dX11_share_88 : decode cX11_share 88 = .ok (.iload_n 2, 1) := dGR_17_c_522.2.2.2.2.2.2.2.2.2.2.1
theorem dX11_share_89 : decode cX11_share 89 = .ok (.invokestatic 342, 3) := dGR_17_c_522.2.2.2.2.2.2.2.2.2.2.2
set_option maxRecDepth 100000 in
theorem dGR_17_c_523 : (decode cX11_share 92 = .ok (.i2l, 1)) ∧ (decode cX11_share 93 = .ok (.invokevirtual 252, 3)) ∧ (decode cX11_share 96 = .ok (.aload_n 0, 1)) ∧ (decode cX11_share 97 = .ok (.invokevirtual 98, 3)) ∧ (decode cX11_share 100 = .ok (.ireturn, 1)) := by decide +kernel
theorem dX11_share_92 : decode cX11_share 92 = .ok (.i2l, 1) := dGR_17_c_523.1
theorem dX11_share_93 : decode cX11_share 93 = .ok (.invokevirtual 252, 3) := dGR_17_c_523.2.1
theorem dX11_share_96 : decode cX11_share 96 = .ok (.aload_n 0, 1) := dGR_17_c_523.2.2.1
theorem dX11_share_97 : decode cX11_share 97 = .ok (.invokevirtual 98, 3) := dGR_17_c_523.2.2.2.1
theorem dX11_share_100 : decode cX11_share 100 = .ok (.ireturn, 1) := dGR_17_c_523.2.2.2.2
set_option maxRecDepth 100000 in
theorem dGR_17_c_524 : (decode cX11_lastAt 0 = .ok (.aload_n 0, 1)) ∧ (decode cX11_lastAt 1 = .ok (.getfield 26, 3)) ∧ (decode cX11_lastAt 4 = .ok (.iload_n 1, 1)) ∧ (decode cX11_lastAt 5 = .ok (.invokevirtual 163, 3)) ∧ (decode cX11_lastAt 8 = .ok (.ifCond .eq 24, 3)) ∧ (decode cX11_lastAt 11 = .ok (.iload_n 2, 1)) ∧ (decode cX11_lastAt 12 = .ok (.iconst 1, 1)) ∧ (decode cX11_lastAt 13 = .ok (.bipush 6, 2)) ∧ (decode cX11_lastAt 15 = .ok (.invokestatic 87, 3)) ∧ (decode cX11_lastAt 18 = .ok (.ifCond .eq 14, 3)) ∧ (decode cX11_lastAt 21 = .ok (.iload_n 3, 1)) ∧ (decode cX11_lastAt 22 = .ok (.iconst 0, 1)) := by decide +kernel
theorem dX11_lastAt_0 : decode cX11_lastAt 0 = .ok (.aload_n 0, 1) := dGR_17_c_524.1
theorem dX11_lastAt_1 : decode cX11_lastAt 1 = .ok (.getfield 26, 3) := dGR_17_c_524.2.1
theorem dX11_lastAt_4 : decode cX11_lastAt 4 = .ok (.iload_n 1, 1) := dGR_17_c_524.2.2.1
theorem dX11_lastAt_5 : decode cX11_lastAt 5 = .ok (.invokevirtual 163, 3) := dGR_17_c_524.2.2.2.1
theorem dX11_lastAt_8 : decode cX11_lastAt 8 = .ok (.ifCond .eq 24, 3) := dGR_17_c_524.2.2.2.2.1
theorem dX11_lastAt_11 : decode cX11_lastAt 11 = .ok (.iload_n 2, 1) := dGR_17_c_524.2.2.2.2.2.1
theorem dX11_lastAt_12 : decode cX11_lastAt 12 = .ok (.iconst 1, 1) := dGR_17_c_524.2.2.2.2.2.2.1
theorem dX11_lastAt_13 : decode cX11_lastAt 13 = .ok (.bipush 6, 2) := dGR_17_c_524.2.2.2.2.2.2.2.1
theorem dX11_lastAt_15 : decode cX11_lastAt 15 = .ok (.invokestatic 87, 3) := dGR_17_c_524.2.2.2.2.2.2.2.2.1
theorem dX11_lastAt_18 : decode cX11_lastAt 18 = .ok (.ifCond .eq 14, 3) := dGR_17_c_524.2.2.2.2.2.2.2.2.2.1
theorem dX11_lastAt_21 : decode cX11_lastAt 21 = .ok (.iload_n 3, 1) := dGR_17_c_524.2.2.2.2.2.2.2.2.2.2.1
theorem dX11_lastAt_22 : decode cX11_lastAt 22 = .ok (.iconst 0, 1) := dGR_17_c_524.2.2.2.2.2.2.2.2.2.2.2
set_option maxRecDepth 100000 in
theorem dGR_17_c_525 : (decode cX11_lastAt 23 = .ok (.iload_n 2, 1)) ∧ (decode cX11_lastAt 24 = .ok (.iconst 1, 1)) ∧ (decode cX11_lastAt 25 = .ok (.isub, 1)) ∧ (decode cX11_lastAt 26 = .ok (.invokestatic 87, 3)) ∧ (decode cX11_lastAt 29 = .ok (.ifCond .ne 9, 3)) ∧ (decode cX11_lastAt 32 = .ok (.aload_n 0, 1)) ∧ (decode cX11_lastAt 33 = .ok (.iconst 1, 1)) ∧ (decode cX11_lastAt 34 = .ok (.invokevirtual 110, 3)) ∧ (decode cX11_lastAt 37 = .ok (.ireturn, 1)) ∧ (decode cX11_lastAt 38 = .ok (.aload_n 0, 1)) ∧ (decode cX11_lastAt 39 = .ok (.getfield 26, 3)) ∧ (decode cX11_lastAt 42 = .ok (.iload_n 1, 1)) := by decide +kernel
theorem dX11_lastAt_23 : decode cX11_lastAt 23 = .ok (.iload_n 2, 1) := dGR_17_c_525.1
theorem dX11_lastAt_24 : decode cX11_lastAt 24 = .ok (.iconst 1, 1) := dGR_17_c_525.2.1
theorem dX11_lastAt_25 : decode cX11_lastAt 25 = .ok (.isub, 1) := dGR_17_c_525.2.2.1
theorem dX11_lastAt_26 : decode cX11_lastAt 26 = .ok (.invokestatic 87, 3) := dGR_17_c_525.2.2.2.1
theorem dX11_lastAt_29 : decode cX11_lastAt 29 = .ok (.ifCond .ne 9, 3) := dGR_17_c_525.2.2.2.2.1
theorem dX11_lastAt_32 : decode cX11_lastAt 32 = .ok (.aload_n 0, 1) := dGR_17_c_525.2.2.2.2.2.1
theorem dX11_lastAt_33 : decode cX11_lastAt 33 = .ok (.iconst 1, 1) := dGR_17_c_525.2.2.2.2.2.2.1
theorem dX11_lastAt_34 : decode cX11_lastAt 34 = .ok (.invokevirtual 110, 3) := dGR_17_c_525.2.2.2.2.2.2.2.1
theorem dX11_lastAt_37 : decode cX11_lastAt 37 = .ok (.ireturn, 1) := dGR_17_c_525.2.2.2.2.2.2.2.2.1
theorem dX11_lastAt_38 : decode cX11_lastAt 38 = .ok (.aload_n 0, 1) := dGR_17_c_525.2.2.2.2.2.2.2.2.2.1
theorem dX11_lastAt_39 : decode cX11_lastAt 39 = .ok (.getfield 26, 3) := dGR_17_c_525.2.2.2.2.2.2.2.2.2.2.1
theorem dX11_lastAt_42 : decode cX11_lastAt 42 = .ok (.iload_n 1, 1) := dGR_17_c_525.2.2.2.2.2.2.2.2.2.2.2
set_option maxRecDepth 100000 in
theorem dGR_17_c_526 : (decode cX11_lastAt 43 = .ok (.invokevirtual 164, 3)) ∧ (decode cX11_lastAt 46 = .ok (.astore 4, 2)) ∧ (decode cX11_lastAt 48 = .ok (.aload_n 0, 1)) ∧ (decode cX11_lastAt 49 = .ok (.getfield 54, 3)) ∧ (decode cX11_lastAt 52 = .ok (.aload_n 0, 1)) ∧ (decode cX11_lastAt 53 = .ok (.getfield 26, 3)) ∧ (decode cX11_lastAt 56 = .ok (.aload 4, 2)) ∧ (decode cX11_lastAt 58 = .ok (.iload_n 2, 1)) ∧ (decode cX11_lastAt 59 = .ok (.invokevirtual 334, 3)) ∧ (decode cX11_lastAt 62 = .ok (.aload_n 0, 1)) ∧ (decode cX11_lastAt 63 = .ok (.getfield 54, 3)) ∧ (decode cX11_lastAt 66 = .ok (.aload 4, 2)) := by decide +kernel
theorem dX11_lastAt_43 : decode cX11_lastAt 43 = .ok (.invokevirtual 164, 3) := dGR_17_c_526.1
theorem dX11_lastAt_46 : decode cX11_lastAt 46 = .ok (.astore 4, 2) := dGR_17_c_526.2.1
theorem dX11_lastAt_48 : decode cX11_lastAt 48 = .ok (.aload_n 0, 1) := dGR_17_c_526.2.2.1
theorem dX11_lastAt_49 : decode cX11_lastAt 49 = .ok (.getfield 54, 3) := dGR_17_c_526.2.2.2.1
theorem dX11_lastAt_52 : decode cX11_lastAt 52 = .ok (.aload_n 0, 1) := dGR_17_c_526.2.2.2.2.1
theorem dX11_lastAt_53 : decode cX11_lastAt 53 = .ok (.getfield 26, 3) := dGR_17_c_526.2.2.2.2.2.1
theorem dX11_lastAt_56 : decode cX11_lastAt 56 = .ok (.aload 4, 2) := dGR_17_c_526.2.2.2.2.2.2.1
theorem dX11_lastAt_58 : decode cX11_lastAt 58 = .ok (.iload_n 2, 1) := dGR_17_c_526.2.2.2.2.2.2.2.1
theorem dX11_lastAt_59 : decode cX11_lastAt 59 = .ok (.invokevirtual 334, 3) := dGR_17_c_526.2.2.2.2.2.2.2.2.1
theorem dX11_lastAt_62 : decode cX11_lastAt 62 = .ok (.aload_n 0, 1) := dGR_17_c_526.2.2.2.2.2.2.2.2.2.1
theorem dX11_lastAt_63 : decode cX11_lastAt 63 = .ok (.getfield 54, 3) := dGR_17_c_526.2.2.2.2.2.2.2.2.2.2.1
theorem dX11_lastAt_66 : decode cX11_lastAt 66 = .ok (.aload 4, 2) := dGR_17_c_526.2.2.2.2.2.2.2.2.2.2.2
set_option maxRecDepth 100000 in
theorem dGR_17_c_527 : (decode cX11_lastAt 68 = .ok (.iload_n 2, 1)) ∧ (decode cX11_lastAt 69 = .ok (.invokevirtual 345, 3)) ∧ (decode cX11_lastAt 72 = .ok (.istore 5, 2)) ∧ (decode cX11_lastAt 74 = .ok (.iload 5, 2)) ∧ (decode cX11_lastAt 76 = .ok (.iconst (-1), 1)) ∧ (decode cX11_lastAt 77 = .ok (.if_icmp .ne 12, 3)) ∧ (decode cX11_lastAt 80 = .ok (.aload_n 0, 1)) ∧ (decode cX11_lastAt 81 = .ok (.bipush 6, 2)) ∧ (decode cX11_lastAt 83 = .ok (.invokevirtual 110, 3)) ∧ (decode cX11_lastAt 86 = .ok (.goto 24, 3)) ∧ (decode cX11_lastAt 89 = .ok (.aload_n 0, 1)) ∧ (decode cX11_lastAt 90 = .ok (.iload 5, 2)) := by decide +kernel
theorem dX11_lastAt_68 : decode cX11_lastAt 68 = .ok (.iload_n 2, 1) := dGR_17_c_527.1
theorem dX11_lastAt_69 : decode cX11_lastAt 69 = .ok (.invokevirtual 345, 3) := dGR_17_c_527.2.1
theorem dX11_lastAt_72 : decode cX11_lastAt 72 = .ok (.istore 5, 2) := dGR_17_c_527.2.2.1
theorem dX11_lastAt_74 : decode cX11_lastAt 74 = .ok (.iload 5, 2) := dGR_17_c_527.2.2.2.1
theorem dX11_lastAt_76 : decode cX11_lastAt 76 = .ok (.iconst (-1), 1) := dGR_17_c_527.2.2.2.2.1
theorem dX11_lastAt_77 : decode cX11_lastAt 77 = .ok (.if_icmp .ne 12, 3) := dGR_17_c_527.2.2.2.2.2.1
theorem dX11_lastAt_80 : decode cX11_lastAt 80 = .ok (.aload_n 0, 1) := dGR_17_c_527.2.2.2.2.2.2.1
theorem dX11_lastAt_81 : decode cX11_lastAt 81 = .ok (.bipush 6, 2) := dGR_17_c_527.2.2.2.2.2.2.2.1
theorem dX11_lastAt_83 : decode cX11_lastAt 83 = .ok (.invokevirtual 110, 3) := dGR_17_c_527.2.2.2.2.2.2.2.2.1
theorem dX11_lastAt_86 : decode cX11_lastAt 86 = .ok (.goto 24, 3) := dGR_17_c_527.2.2.2.2.2.2.2.2.2.1
theorem dX11_lastAt_89 : decode cX11_lastAt 89 = .ok (.aload_n 0, 1) := dGR_17_c_527.2.2.2.2.2.2.2.2.2.2.1
theorem dX11_lastAt_90 : decode cX11_lastAt 90 = .ok (.iload 5, 2) := dGR_17_c_527.2.2.2.2.2.2.2.2.2.2.2
set_option maxRecDepth 100000 in
theorem dGR_17_c_528 : (decode cX11_lastAt 92 = .ok (.aload_n 0, 1)) ∧ (decode cX11_lastAt 93 = .ok (.getfield 26, 3)) ∧ (decode cX11_lastAt 96 = .ok (.getfield 160, 3)) ∧ (decode cX11_lastAt 99 = .ok (.iload_n 2, 1)) ∧ (decode cX11_lastAt 100 = .ok (.iconst 1, 1)) ∧ (decode cX11_lastAt 101 = .ok (.isub, 1)) ∧ (decode cX11_lastAt 102 = .ok (.iload_n 3, 1)) ∧ (decode cX11_lastAt 103 = .ok (.isub, 1)) ∧ (decode cX11_lastAt 104 = .ok (.invokestatic 348, 3)) ∧ (decode cX11_lastAt 107 = .ok (.invokevirtual 145, 3)) ∧ (decode cX11_lastAt 110 = .ok (.ireturn, 1)) := by decide +kernel
theorem dX11_lastAt_92 : decode cX11_lastAt 92 = .ok (.aload_n 0, 1) := dGR_17_c_528.1
theorem dX11_lastAt_93 : decode cX11_lastAt 93 = .ok (.getfield 26, 3) := dGR_17_c_528.2.1
theorem dX11_lastAt_96 : decode cX11_lastAt 96 = .ok (.getfield 160, 3) := dGR_17_c_528.2.2.1
theorem dX11_lastAt_99 : decode cX11_lastAt 99 = .ok (.iload_n 2, 1) := dGR_17_c_528.2.2.2.1
theorem dX11_lastAt_100 : decode cX11_lastAt 100 = .ok (.iconst 1, 1) := dGR_17_c_528.2.2.2.2.1
theorem dX11_lastAt_101 : decode cX11_lastAt 101 = .ok (.isub, 1) := dGR_17_c_528.2.2.2.2.2.1
theorem dX11_lastAt_102 : decode cX11_lastAt 102 = .ok (.iload_n 3, 1) := dGR_17_c_528.2.2.2.2.2.2.1
theorem dX11_lastAt_103 : decode cX11_lastAt 103 = .ok (.isub, 1) := dGR_17_c_528.2.2.2.2.2.2.2.1
theorem dX11_lastAt_104 : decode cX11_lastAt 104 = .ok (.invokestatic 348, 3) := dGR_17_c_528.2.2.2.2.2.2.2.2.1
theorem dX11_lastAt_107 : decode cX11_lastAt 107 = .ok (.invokevirtual 145, 3) := dGR_17_c_528.2.2.2.2.2.2.2.2.2.1
theorem dX11_lastAt_110 : decode cX11_lastAt 110 = .ok (.ireturn, 1) := dGR_17_c_528.2.2.2.2.2.2.2.2.2.2
abbrev f_c_X11_lastAt : List (Nat × Int) := [(47, 0), (47, 1), (47, 2), (47, 3), (47, 7), (48, -1), (49, -1), (50, -1), (51, -1), (52, -1), (53, -1), (54, -1), (55, -1), (62, 0)]
set_option maxHeartbeats 4000000 in
set_option maxRecDepth 100000 in
theorem c_X11_lastAt (G : KG) (l : Launch) (M : Mem) (c0 : Int) (a1 : Int) (a2 : Int) (a3 : Int) (hI_M : Inv false M) (hk_c0 : kd c0 = 62) (hpre : -2147483648 ≤ a1 ∧ a1 ≤ 2147483647 ∧ -2147483648 ≤ a2 ∧ a2 ≤ 2147483647 ∧ -2147483648 ≤ a3 ∧ a3 ≤ 2147483647) : KC false G l yX11_lastAt cX11_lastAt 6 (some .int) (5, 123) [vR G c0, vI a1, vI a2, vI a3] M (fun A => kQi false G A (fun (r : Int) (N : Mem) => Inv false N ∧ Fr f_c_X11_lastAt M N ∧ (r ≥ -2147483646 ∧ r ≤ 2147483646))) := by
  refine kx_met (lo := [some (vR G c0), some (vI a1), some (vI a2), some (vI a3), none, none]) (by decide) (Nat.le_of_ble_eq_true rfl) rfl ?_
  intro X F hQ
  have hF_M : Fr f_c_X11_lastAt M M := Fr.rf _ _
  refine kx_aload_n 1 F 0 dX11_lastAt_0 rfl rfl rfl ?_
  refine kx_getr 4 F fl_X11_26 hk_c0 rfl rfl (j := 5) rfl dX11_lastAt_1 (v := (M c0 5)) rfl rfl ?_
  have hk_1 : kd (M c0 5) = 12 := Inv.r hI_M hk_c0 rfl 5 rfl rfl
  refine kx_iload_n 5 F 1 dX11_lastAt_4 rfl rfl rfl ?_
  refine kx_Vi 8 (ci := 0) F (As := [vI a1]) (st := []) vd_X11_163 (c_X5_has G l M (M c0 5) a1 hI_M hk_1 (by omega)) hk_1 rfl rfl rfl ⟨by decide, by decide⟩ rfl rfl (Nat.le_of_ble_eq_true rfl) dX11_lastAt_5 rfl ?_
  intro r_2 N_3 q_4
  obtain ⟨rfl, q_4c⟩ := q_4
  have h_5 := Inv.g hI_M hk_1 rfl 3 (a := 0) (b := 2) rfl rfl
  rcases q_4c with q_4c | q_4c
  · refine kx_if_eq 11 F 32 dX11_lastAt_8 (by decide) rfl (by omega) (fun h_6 => (by exfalso; omega)) (fun h_6 => ?_)
    refine kx_iload_n 12 F 2 dX11_lastAt_11 rfl rfl rfl ?_
    refine kx_iconst 13 F dX11_lastAt_12 rfl ?_
    refine kx_bipush 15 F dX11_lastAt_13 (by decide) rfl ?_
    refine kx_Si 18 F (As := [vI a2, vI 1, vI 6]) (st := []) sd_X11_87 (c_X11_within G l M a2 1 6 hI_M (by omega)) ⟨by decide, by decide⟩ rfl rfl (Nat.le_of_ble_eq_true rfl) dX11_lastAt_15 rfl ?_
    intro r_7 N_8 q_9
    obtain ⟨rfl, q_9c⟩ := q_9
    rcases q_9c with q_9c | q_9c
    · refine kx_if_eq 21 F 32 dX11_lastAt_18 (by decide) rfl (by omega) (fun h_10 => (by exfalso; omega)) (fun h_10 => ?_)
      refine kx_iload_n 22 F 3 dX11_lastAt_21 rfl rfl rfl ?_
      refine kx_iconst 23 F dX11_lastAt_22 rfl ?_
      refine kx_iload_n 24 F 2 dX11_lastAt_23 rfl rfl rfl ?_
      refine kx_iconst 25 F dX11_lastAt_24 rfl ?_
      refine kx_isub 26 F (v := a2 - 1) dX11_lastAt_25 rfl rfl ?_
      refine kx_Si 29 F (As := [vI a3, vI 0, vI (a2 - 1)]) (st := []) sd_X11_87 (c_X11_within G l M a3 0 (a2 - 1) hI_M (by omega)) ⟨by decide, by decide⟩ rfl rfl (Nat.le_of_ble_eq_true rfl) dX11_lastAt_26 rfl ?_
      intro r_11 N_12 q_13
      obtain ⟨rfl, q_13c⟩ := q_13
      rcases q_13c with q_13c | q_13c
      · refine kx_if_ne 32 F 38 dX11_lastAt_29 (by decide) rfl (by omega) (fun h_14 => ?_) (fun h_14 => (by exfalso; omega))
        refine kx_aload_n 39 F 0 dX11_lastAt_38 rfl rfl rfl ?_
        refine kx_getr 42 F fl_X11_26 hk_c0 rfl rfl (j := 5) rfl dX11_lastAt_39 (v := (M c0 5)) rfl rfl ?_
        refine kx_iload_n 43 F 1 dX11_lastAt_42 rfl rfl rfl ?_
        refine kx_Vr 46 (ci := 0) F (As := [vI a1]) (st := []) vd_X11_164 (c_X5_pick G l M (M c0 5) a1 hI_M hk_1 (by omega)) hk_1 rfl rfl rfl ⟨by decide, by decide⟩ rfl rfl (Nat.le_of_ble_eq_true rfl) dX11_lastAt_43 rfl ?_
        intro r_15 N_16 q_17
        obtain ⟨rfl, hk_18⟩ := q_17
        refine kx_astore 48 F 4 (lo' := [some (vR G c0), some (vI a1), some (vI a2), some (vI a3), some (vR G r_15), none]) dX11_lastAt_46 (by decide) rfl rfl rfl ?_
        refine kx_aload_n 49 F 0 dX11_lastAt_48 rfl rfl rfl ?_
        refine kx_getr 52 F fl_X11_54 hk_c0 rfl rfl (j := 11) rfl dX11_lastAt_49 (v := (M c0 11)) rfl rfl ?_
        have hk_19 : kd (M c0 11) = 47 := Inv.r hI_M hk_c0 rfl 11 rfl rfl
        refine kx_aload_n 53 F 0 dX11_lastAt_52 rfl rfl rfl ?_
        refine kx_getr 56 F fl_X11_26 hk_c0 rfl rfl (j := 5) rfl dX11_lastAt_53 (v := (M c0 5)) rfl rfl ?_
        refine kx_aload 58 F 4 dX11_lastAt_56 rfl rfl ?_
        refine kx_iload_n 59 F 2 dX11_lastAt_58 rfl rfl rfl ?_
        refine kx_Vv 62 (ci := 0) F (As := [vR G (M c0 5), vR G r_15, vI a2]) (st := []) vd_X11_334 (c_X8_reckon G l M (M c0 11) (M c0 5) r_15 a2 hI_M hk_19 hk_1 hk_18 (by omega)) hk_19 rfl rfl rfl ⟨by decide, by decide⟩ rfl rfl (Nat.le_of_ble_eq_true rfl) dX11_lastAt_59 rfl ?_
        intro N_20 q_21
        obtain ⟨hI_N_20, hG_N_20⟩ := q_21
        have hF_N_20 : Fr f_c_X11_lastAt M N_20 := Fr.c hF_M hG_N_20 rfl
        refine kx_aload_n 63 F 0 dX11_lastAt_62 rfl rfl rfl ?_
        refine kx_getr 66 F fl_X11_54 hk_c0 rfl rfl (j := 11) rfl dX11_lastAt_63 (v := (M c0 11)) (by rw [Fr.e hG_N_20 hk_c0 _ rfl]) rfl ?_
        refine kx_aload 68 F 4 dX11_lastAt_66 rfl rfl ?_
        refine kx_iload_n 69 F 2 dX11_lastAt_68 rfl rfl rfl ?_
        refine kx_Vi 72 (ci := 0) F (As := [vR G r_15, vI a2]) (st := []) vd_X11_345 (c_X8_lastTaken G l N_20 (M c0 11) r_15 a2 hI_N_20 hk_19 hk_18 (by omega)) hk_19 rfl rfl rfl ⟨by decide, by decide⟩ rfl rfl (Nat.le_of_ble_eq_true rfl) dX11_lastAt_69 rfl ?_
        intro r_22 N_23 q_24
        obtain ⟨rfl, q_24c⟩ := q_24
        refine kx_istore 74 F 5 (lo' := [some (vR G c0), some (vI a1), some (vI a2), some (vI a3), some (vR G r_15), some (vI r_22)]) dX11_lastAt_72 (by decide) rfl rfl rfl ?_
        refine kx_iload 76 F 5 dX11_lastAt_74 rfl rfl ?_
        refine kx_iconst 77 F dX11_lastAt_76 rfl ?_
        refine kx_icmp_ne 80 F 89 dX11_lastAt_77 (by decide) rfl (by omega) (by decide) (fun h_25 => ?_) (fun h_25 => ?_)
        · refine kx_aload_n 90 F 0 dX11_lastAt_89 rfl rfl rfl ?_
          refine kx_iload 92 F 5 dX11_lastAt_90 rfl rfl ?_
          refine kx_aload_n 93 F 0 dX11_lastAt_92 rfl rfl rfl ?_
          refine kx_getr 96 F fl_X11_26 hk_c0 rfl rfl (j := 5) rfl dX11_lastAt_93 (v := (M c0 5)) (by rw [Fr.e hG_N_20 hk_c0 _ rfl]) rfl ?_
          refine kx_geti 99 F fl_X11_160 hk_1 rfl rfl (j := 2) rfl dX11_lastAt_96 (v := (M (M c0 5) 2)) (by rw [Fr.e hG_N_20 hk_1 _ rfl]) rfl ?_
          have h_26 := Inv.g hI_M hk_1 rfl 2 (a := 0) (b := 6) rfl rfl
          refine kx_iload_n 100 F 2 dX11_lastAt_99 rfl rfl rfl ?_
          refine kx_iconst 101 F dX11_lastAt_100 rfl ?_
          refine kx_isub 102 F (v := a2 - 1) dX11_lastAt_101 rfl rfl ?_
          refine kx_iload_n 103 F 3 dX11_lastAt_102 rfl rfl rfl ?_
          refine kx_isub 104 F (v := a2 - a3 - 1) dX11_lastAt_103 (by omega) rfl ?_
          refine kx_Si 107 F (As := [vI r_22, vI (M (M c0 5) 2), vI (a2 - a3 - 1)]) (st := [vR G c0]) sd_X11_348 (c_X2_digit G l N_20 r_22 (M (M c0 5) 2) (a2 - a3 - 1) hI_N_20 (by omega)) ⟨by decide, by decide⟩ rfl rfl (Nat.le_of_ble_eq_true rfl) dX11_lastAt_104 rfl ?_
          intro r_27 N_28 q_29
          obtain ⟨rfl, q_29c⟩ := q_29
          refine kx_Vi 110 (ci := 0) F (As := [vI r_27]) (st := []) vd_X11_145 (c_X11_answer G l N_20 c0 r_27 hI_N_20 hk_c0 (by omega)) hk_c0 rfl rfl rfl ⟨by decide, by decide⟩ rfl rfl (Nat.le_of_ble_eq_true rfl) dX11_lastAt_107 rfl ?_
          intro r_30 N_31 q_32
          obtain ⟨hI_N_31, hG_N_31, q_32c⟩ := q_32
          have hF_N_31 : Fr f_c_X11_lastAt M N_31 := Fr.c hF_N_20 hG_N_31 rfl
          exact kx_iret F hQ ⟨hI_N_31, hF_N_31, (by omega)⟩ dX11_lastAt_110
        · refine kx_aload_n 81 F 0 dX11_lastAt_80 rfl rfl rfl ?_
          refine kx_bipush 83 F dX11_lastAt_81 (by decide) rfl ?_
          refine kx_Vi 86 (ci := 0) F (As := [vI 6]) (st := []) vd_X11_110 (c_X11_refuse G l N_20 c0 6 hI_N_20 hk_c0 (by omega)) hk_c0 rfl rfl rfl ⟨by decide, by decide⟩ rfl rfl (Nat.le_of_ble_eq_true rfl) dX11_lastAt_83 rfl ?_
          intro r_33 N_34 q_35
          obtain ⟨hI_N_34, hG_N_34, q_35c⟩ := q_35
          have hF_N_34 : Fr f_c_X11_lastAt M N_34 := Fr.c hF_N_20 hG_N_34 rfl
          subst q_35c
          refine kx_goto 110 F dX11_lastAt_86 (by decide) ?_
          exact kx_iret F hQ ⟨hI_N_34, hF_N_34, (by omega)⟩ dX11_lastAt_110
      · refine kx_if_ne 32 F 38 dX11_lastAt_29 (by decide) rfl (by omega) (fun h_36 => (by exfalso; omega)) (fun h_36 => ?_)
        refine kx_aload_n 33 F 0 dX11_lastAt_32 rfl rfl rfl ?_
        refine kx_iconst 34 F dX11_lastAt_33 rfl ?_
        refine kx_Vi 37 (ci := 0) F (As := [vI 1]) (st := []) vd_X11_110 (c_X11_refuse G l M c0 1 hI_M hk_c0 (by omega)) hk_c0 rfl rfl rfl ⟨by decide, by decide⟩ rfl rfl (Nat.le_of_ble_eq_true rfl) dX11_lastAt_34 rfl ?_
        intro r_37 N_38 q_39
        obtain ⟨hI_N_38, hG_N_38, q_39c⟩ := q_39
        have hF_N_38 : Fr f_c_X11_lastAt M N_38 := Fr.c hF_M hG_N_38 rfl
        subst q_39c
        exact kx_iret F hQ ⟨hI_N_38, hF_N_38, (by omega)⟩ dX11_lastAt_37
    · refine kx_if_eq 21 F 32 dX11_lastAt_18 (by decide) rfl (by omega) (fun h_40 => ?_) (fun h_40 => (by exfalso; omega))
      refine kx_aload_n 33 F 0 dX11_lastAt_32 rfl rfl rfl ?_
      refine kx_iconst 34 F dX11_lastAt_33 rfl ?_
      refine kx_Vi 37 (ci := 0) F (As := [vI 1]) (st := []) vd_X11_110 (c_X11_refuse G l M c0 1 hI_M hk_c0 (by omega)) hk_c0 rfl rfl rfl ⟨by decide, by decide⟩ rfl rfl (Nat.le_of_ble_eq_true rfl) dX11_lastAt_34 rfl ?_
      intro r_41 N_42 q_43
      obtain ⟨hI_N_42, hG_N_42, q_43c⟩ := q_43
      have hF_N_42 : Fr f_c_X11_lastAt M N_42 := Fr.c hF_M hG_N_42 rfl
      subst q_43c
      exact kx_iret F hQ ⟨hI_N_42, hF_N_42, (by omega)⟩ dX11_lastAt_37
  · refine kx_if_eq 11 F 32 dX11_lastAt_8 (by decide) rfl (by omega) (fun h_44 => ?_) (fun h_44 => (by exfalso; omega))
    refine kx_aload_n 33 F 0 dX11_lastAt_32 rfl rfl rfl ?_
    refine kx_iconst 34 F dX11_lastAt_33 rfl ?_
    refine kx_Vi 37 (ci := 0) F (As := [vI 1]) (st := []) vd_X11_110 (c_X11_refuse G l M c0 1 hI_M hk_c0 (by omega)) hk_c0 rfl rfl rfl ⟨by decide, by decide⟩ rfl rfl (Nat.le_of_ble_eq_true rfl) dX11_lastAt_34 rfl ?_
    intro r_45 N_46 q_47
    obtain ⟨hI_N_46, hG_N_46, q_47c⟩ := q_47
    have hF_N_46 : Fr f_c_X11_lastAt M N_46 := Fr.c hF_M hG_N_46 rfl
    subst q_47c
    exact kx_iret F hQ ⟨hI_N_46, hF_N_46, (by omega)⟩ dX11_lastAt_37
set_option maxRecDepth 100000 in
theorem dGR_17_c_529 : (decode cX11_sample 0 = .ok (.aload_n 0, 1)) ∧ (decode cX11_sample 1 = .ok (.getfield 10, 3)) ∧ (decode cX11_sample 4 = .ok (.iload_n 1, 1)) ∧ (decode cX11_sample 5 = .ok (.invokevirtual 83, 3)) ∧ (decode cX11_sample 8 = .ok (.ifCond .eq 24, 3)) ∧ (decode cX11_sample 11 = .ok (.iload_n 2, 1)) ∧ (decode cX11_sample 12 = .ok (.iconst 0, 1)) ∧ (decode cX11_sample 13 = .ok (.bipush 20, 2)) ∧ (decode cX11_sample 15 = .ok (.invokestatic 87, 3)) ∧ (decode cX11_sample 18 = .ok (.ifCond .eq 14, 3)) ∧ (decode cX11_sample 21 = .ok (.iload_n 3, 1)) ∧ (decode cX11_sample 22 = .ok (.iconst 0, 1)) := by decide +kernel
theorem dX11_sample_0 : decode cX11_sample 0 = .ok (.aload_n 0, 1) := dGR_17_c_529.1
theorem dX11_sample_1 : decode cX11_sample 1 = .ok (.getfield 10, 3) := dGR_17_c_529.2.1
theorem dX11_sample_4 : decode cX11_sample 4 = .ok (.iload_n 1, 1) := dGR_17_c_529.2.2.1
theorem dX11_sample_5 : decode cX11_sample 5 = .ok (.invokevirtual 83, 3) := dGR_17_c_529.2.2.2.1
theorem dX11_sample_8 : decode cX11_sample 8 = .ok (.ifCond .eq 24, 3) := dGR_17_c_529.2.2.2.2.1
theorem dX11_sample_11 : decode cX11_sample 11 = .ok (.iload_n 2, 1) := dGR_17_c_529.2.2.2.2.2.1
theorem dX11_sample_12 : decode cX11_sample 12 = .ok (.iconst 0, 1) := dGR_17_c_529.2.2.2.2.2.2.1
theorem dX11_sample_13 : decode cX11_sample 13 = .ok (.bipush 20, 2) := dGR_17_c_529.2.2.2.2.2.2.2.1
theorem dX11_sample_15 : decode cX11_sample 15 = .ok (.invokestatic 87, 3) := dGR_17_c_529.2.2.2.2.2.2.2.2.1
theorem dX11_sample_18 : decode cX11_sample 18 = .ok (.ifCond .eq 14, 3) := dGR_17_c_529.2.2.2.2.2.2.2.2.2.1
theorem dX11_sample_21 : decode cX11_sample 21 = .ok (.iload_n 3, 1) := dGR_17_c_529.2.2.2.2.2.2.2.2.2.2.1
theorem dX11_sample_22 : decode cX11_sample 22 = .ok (.iconst 0, 1) := dGR_17_c_529.2.2.2.2.2.2.2.2.2.2.2
set_option maxRecDepth 100000 in
theorem dGR_17_c_530 : (decode cX11_sample 23 = .ok (.sipush 9999, 3)) ∧ (decode cX11_sample 26 = .ok (.invokestatic 87, 3)) ∧ (decode cX11_sample 29 = .ok (.ifCond .ne 9, 3)) ∧ (decode cX11_sample 32 = .ok (.aload_n 0, 1)) ∧ (decode cX11_sample 33 = .ok (.iconst 1, 1)) ∧ (decode cX11_sample 34 = .ok (.invokevirtual 91, 3)) ∧ (decode cX11_sample 37 = .ok (.ireturn, 1)) ∧ (decode cX11_sample 38 = .ok (.aload_n 0, 1)) ∧ (decode cX11_sample 39 = .ok (.getfield 10, 3)) ∧ (decode cX11_sample 42 = .ok (.iload_n 1, 1)) ∧ (decode cX11_sample 43 = .ok (.invokevirtual 351, 3)) ∧ (decode cX11_sample 46 = .ok (.ifCond .eq 9, 3)) := by decide +kernel
theorem dX11_sample_23 : decode cX11_sample 23 = .ok (.sipush 9999, 3) := dGR_17_c_530.1
theorem dX11_sample_26 : decode cX11_sample 26 = .ok (.invokestatic 87, 3) := dGR_17_c_530.2.1
theorem dX11_sample_29 : decode cX11_sample 29 = .ok (.ifCond .ne 9, 3) := dGR_17_c_530.2.2.1
theorem dX11_sample_32 : decode cX11_sample 32 = .ok (.aload_n 0, 1) := dGR_17_c_530.2.2.2.1
theorem dX11_sample_33 : decode cX11_sample 33 = .ok (.iconst 1, 1) := dGR_17_c_530.2.2.2.2.1
theorem dX11_sample_34 : decode cX11_sample 34 = .ok (.invokevirtual 91, 3) := dGR_17_c_530.2.2.2.2.2.1
theorem dX11_sample_37 : decode cX11_sample 37 = .ok (.ireturn, 1) := dGR_17_c_530.2.2.2.2.2.2.1
theorem dX11_sample_38 : decode cX11_sample 38 = .ok (.aload_n 0, 1) := dGR_17_c_530.2.2.2.2.2.2.2.1
theorem dX11_sample_39 : decode cX11_sample 39 = .ok (.getfield 10, 3) := dGR_17_c_530.2.2.2.2.2.2.2.2.1
theorem dX11_sample_42 : decode cX11_sample 42 = .ok (.iload_n 1, 1) := dGR_17_c_530.2.2.2.2.2.2.2.2.2.1
theorem dX11_sample_43 : decode cX11_sample 43 = .ok (.invokevirtual 351, 3) := dGR_17_c_530.2.2.2.2.2.2.2.2.2.2.1
theorem dX11_sample_46 : decode cX11_sample 46 = .ok (.ifCond .eq 9, 3) := dGR_17_c_530.2.2.2.2.2.2.2.2.2.2.2
set_option maxRecDepth 100000 in
theorem dGR_17_c_531 : (decode cX11_sample 49 = .ok (.aload_n 0, 1)) ∧ (decode cX11_sample 50 = .ok (.iconst 2, 1)) ∧ (decode cX11_sample 51 = .ok (.invokevirtual 91, 3)) ∧ (decode cX11_sample 54 = .ok (.ireturn, 1)) ∧ (decode cX11_sample 55 = .ok (.iload_n 2, 1)) ∧ (decode cX11_sample 56 = .ok (.aload_n 0, 1)) ∧ (decode cX11_sample 57 = .ok (.getfield 10, 3)) ∧ (decode cX11_sample 60 = .ok (.iload_n 1, 1)) ∧ (decode cX11_sample 61 = .ok (.invokevirtual 354, 3)) ∧ (decode cX11_sample 64 = .ok (.if_icmp .le 9, 3)) ∧ (decode cX11_sample 67 = .ok (.aload_n 0, 1)) ∧ (decode cX11_sample 68 = .ok (.iconst 3, 1)) := by decide +kernel
theorem dX11_sample_49 : decode cX11_sample 49 = .ok (.aload_n 0, 1) := dGR_17_c_531.1
theorem dX11_sample_50 : decode cX11_sample 50 = .ok (.iconst 2, 1) := dGR_17_c_531.2.1
theorem dX11_sample_51 : decode cX11_sample 51 = .ok (.invokevirtual 91, 3) := dGR_17_c_531.2.2.1
theorem dX11_sample_54 : decode cX11_sample 54 = .ok (.ireturn, 1) := dGR_17_c_531.2.2.2.1
theorem dX11_sample_55 : decode cX11_sample 55 = .ok (.iload_n 2, 1) := dGR_17_c_531.2.2.2.2.1
theorem dX11_sample_56 : decode cX11_sample 56 = .ok (.aload_n 0, 1) := dGR_17_c_531.2.2.2.2.2.1
theorem dX11_sample_57 : decode cX11_sample 57 = .ok (.getfield 10, 3) := dGR_17_c_531.2.2.2.2.2.2.1
theorem dX11_sample_60 : decode cX11_sample 60 = .ok (.iload_n 1, 1) := dGR_17_c_531.2.2.2.2.2.2.2.1
theorem dX11_sample_61 : decode cX11_sample 61 = .ok (.invokevirtual 354, 3) := dGR_17_c_531.2.2.2.2.2.2.2.2.1
theorem dX11_sample_64 : decode cX11_sample 64 = .ok (.if_icmp .le 9, 3) := dGR_17_c_531.2.2.2.2.2.2.2.2.2.1
theorem dX11_sample_67 : decode cX11_sample 67 = .ok (.aload_n 0, 1) := dGR_17_c_531.2.2.2.2.2.2.2.2.2.2.1
theorem dX11_sample_68 : decode cX11_sample 68 = .ok (.iconst 3, 1) := dGR_17_c_531.2.2.2.2.2.2.2.2.2.2.2
set_option maxRecDepth 100000 in
theorem dGR_17_c_532 : (decode cX11_sample 69 = .ok (.invokevirtual 91, 3)) ∧ (decode cX11_sample 72 = .ok (.ireturn, 1)) ∧ (decode cX11_sample 73 = .ok (.aload_n 0, 1)) ∧ (decode cX11_sample 74 = .ok (.getfield 26, 3)) ∧ (decode cX11_sample 77 = .ok (.getfield 160, 3)) ∧ (decode cX11_sample 80 = .ok (.ifCond .ne 14, 3)) ∧ (decode cX11_sample 83 = .ok (.iload_n 2, 1)) ∧ (decode cX11_sample 84 = .ok (.ifCond .le 10, 3)) ∧ (decode cX11_sample 87 = .ok (.aload_n 0, 1)) ∧ (decode cX11_sample 88 = .ok (.bipush 6, 2)) ∧ (decode cX11_sample 90 = .ok (.invokevirtual 91, 3)) ∧ (decode cX11_sample 93 = .ok (.ireturn, 1)) := by decide +kernel
theorem dX11_sample_69 : decode cX11_sample 69 = .ok (.invokevirtual 91, 3) := dGR_17_c_532.1
theorem dX11_sample_72 : decode cX11_sample 72 = .ok (.ireturn, 1) := dGR_17_c_532.2.1
theorem dX11_sample_73 : decode cX11_sample 73 = .ok (.aload_n 0, 1) := dGR_17_c_532.2.2.1
theorem dX11_sample_74 : decode cX11_sample 74 = .ok (.getfield 26, 3) := dGR_17_c_532.2.2.2.1
theorem dX11_sample_77 : decode cX11_sample 77 = .ok (.getfield 160, 3) := dGR_17_c_532.2.2.2.2.1
theorem dX11_sample_80 : decode cX11_sample 80 = .ok (.ifCond .ne 14, 3) := dGR_17_c_532.2.2.2.2.2.1
theorem dX11_sample_83 : decode cX11_sample 83 = .ok (.iload_n 2, 1) := dGR_17_c_532.2.2.2.2.2.2.1
theorem dX11_sample_84 : decode cX11_sample 84 = .ok (.ifCond .le 10, 3) := dGR_17_c_532.2.2.2.2.2.2.2.1
theorem dX11_sample_87 : decode cX11_sample 87 = .ok (.aload_n 0, 1) := dGR_17_c_532.2.2.2.2.2.2.2.2.1
theorem dX11_sample_88 : decode cX11_sample 88 = .ok (.bipush 6, 2) := dGR_17_c_532.2.2.2.2.2.2.2.2.2.1
theorem dX11_sample_90 : decode cX11_sample 90 = .ok (.invokevirtual 91, 3) := dGR_17_c_532.2.2.2.2.2.2.2.2.2.2.1
theorem dX11_sample_93 : decode cX11_sample 93 = .ok (.ireturn, 1) := dGR_17_c_532.2.2.2.2.2.2.2.2.2.2.2
set_option maxRecDepth 100000 in
theorem dGR_17_c_533 : (decode cX11_sample 94 = .ok (.aload_n 0, 1)) ∧ (decode cX11_sample 95 = .ok (.iload_n 3, 1)) ∧ (decode cX11_sample 96 = .ok (.putfield 357, 3)) ∧ (decode cX11_sample 99 = .ok (.iconst 0, 1)) ∧ (decode cX11_sample 100 = .ok (.istore 4, 2)) ∧ (decode cX11_sample 102 = .ok (.iload 4, 2)) ∧ (decode cX11_sample 104 = .ok (.iload_n 2, 1)) ∧ (decode cX11_sample 105 = .ok (.if_icmp .ge 31, 3)) ∧ (decode cX11_sample 108 = .ok (.aload_n 0, 1)) ∧ (decode cX11_sample 109 = .ok (.getfield 10, 3)) ∧ (decode cX11_sample 112 = .ok (.iload_n 1, 1)) ∧ (decode cX11_sample 113 = .ok (.iload 4, 2)) := by decide +kernel
theorem dX11_sample_94 : decode cX11_sample 94 = .ok (.aload_n 0, 1) := dGR_17_c_533.1
theorem dX11_sample_95 : decode cX11_sample 95 = .ok (.iload_n 3, 1) := dGR_17_c_533.2.1
theorem dX11_sample_96 : decode cX11_sample 96 = .ok (.putfield 357, 3) := dGR_17_c_533.2.2.1
theorem dX11_sample_99 : decode cX11_sample 99 = .ok (.iconst 0, 1) := dGR_17_c_533.2.2.2.1
theorem dX11_sample_100 : decode cX11_sample 100 = .ok (.istore 4, 2) := dGR_17_c_533.2.2.2.2.1
theorem dX11_sample_102 : decode cX11_sample 102 = .ok (.iload 4, 2) := dGR_17_c_533.2.2.2.2.2.1
theorem dX11_sample_104 : decode cX11_sample 104 = .ok (.iload_n 2, 1) := dGR_17_c_533.2.2.2.2.2.2.1
theorem dX11_sample_105 : decode cX11_sample 105 = .ok (.if_icmp .ge 31, 3) := dGR_17_c_533.2.2.2.2.2.2.2.1
theorem dX11_sample_108 : decode cX11_sample 108 = .ok (.aload_n 0, 1) := dGR_17_c_533.2.2.2.2.2.2.2.2.1
theorem dX11_sample_109 : decode cX11_sample 109 = .ok (.getfield 10, 3) := dGR_17_c_533.2.2.2.2.2.2.2.2.2.1
theorem dX11_sample_112 : decode cX11_sample 112 = .ok (.iload_n 1, 1) := dGR_17_c_533.2.2.2.2.2.2.2.2.2.2.1
theorem dX11_sample_113 : decode cX11_sample 113 = .ok (.iload 4, 2) := dGR_17_c_533.2.2.2.2.2.2.2.2.2.2.2
set_option maxRecDepth 100000 in
theorem dGR_17_c_534 : (decode cX11_sample 115 = .ok (.aload_n 0, 1)) ∧ (decode cX11_sample 116 = .ok (.aload_n 0, 1)) ∧ (decode cX11_sample 117 = .ok (.getfield 26, 3)) ∧ (decode cX11_sample 120 = .ok (.getfield 160, 3)) ∧ (decode cX11_sample 123 = .ok (.invokevirtual 360, 3)) ∧ (decode cX11_sample 126 = .ok (.i2l, 1)) ∧ (decode cX11_sample 127 = .ok (.invokevirtual 106, 3)) ∧ (decode cX11_sample 130 = .ok (.iinc 4 1, 3)) ∧ (decode cX11_sample 133 = .ok (.goto (-31), 3)) ∧ (decode cX11_sample 136 = .ok (.aload_n 0, 1)) ∧ (decode cX11_sample 137 = .ok (.invokevirtual 98, 3)) ∧ (decode cX11_sample 140 = .ok (.ireturn, 1)) := by decide +kernel
theorem dX11_sample_115 : decode cX11_sample 115 = .ok (.aload_n 0, 1) := dGR_17_c_534.1
theorem dX11_sample_116 : decode cX11_sample 116 = .ok (.aload_n 0, 1) := dGR_17_c_534.2.1
theorem dX11_sample_117 : decode cX11_sample 117 = .ok (.getfield 26, 3) := dGR_17_c_534.2.2.1
theorem dX11_sample_120 : decode cX11_sample 120 = .ok (.getfield 160, 3) := dGR_17_c_534.2.2.2.1
theorem dX11_sample_123 : decode cX11_sample 123 = .ok (.invokevirtual 360, 3) := dGR_17_c_534.2.2.2.2.1
theorem dX11_sample_126 : decode cX11_sample 126 = .ok (.i2l, 1) := dGR_17_c_534.2.2.2.2.2.1
theorem dX11_sample_127 : decode cX11_sample 127 = .ok (.invokevirtual 106, 3) := dGR_17_c_534.2.2.2.2.2.2.1
theorem dX11_sample_130 : decode cX11_sample 130 = .ok (.iinc 4 1, 3) := dGR_17_c_534.2.2.2.2.2.2.2.1
theorem dX11_sample_133 : decode cX11_sample 133 = .ok (.goto (-31), 3) := dGR_17_c_534.2.2.2.2.2.2.2.2.1
theorem dX11_sample_136 : decode cX11_sample 136 = .ok (.aload_n 0, 1) := dGR_17_c_534.2.2.2.2.2.2.2.2.2.1
theorem dX11_sample_137 : decode cX11_sample 137 = .ok (.invokevirtual 98, 3) := dGR_17_c_534.2.2.2.2.2.2.2.2.2.2.1
theorem dX11_sample_140 : decode cX11_sample 140 = .ok (.ireturn, 1) := dGR_17_c_534.2.2.2.2.2.2.2.2.2.2.2
set_option maxRecDepth 100000 in
theorem dGR_17_c_535 : (decode cX11_chance 0 = .ok (.aload_n 0, 1)) ∧ (decode cX11_chance 1 = .ok (.getfield 26, 3)) ∧ (decode cX11_chance 4 = .ok (.iload_n 1, 1)) ∧ (decode cX11_chance 5 = .ok (.invokevirtual 163, 3)) ∧ (decode cX11_chance 8 = .ok (.ifCond .eq 35, 3)) ∧ (decode cX11_chance 11 = .ok (.iload_n 2, 1)) ∧ (decode cX11_chance 12 = .ok (.iconst 0, 1)) ∧ (decode cX11_chance 13 = .ok (.bipush 20, 2)) ∧ (decode cX11_chance 15 = .ok (.invokestatic 87, 3)) ∧ (decode cX11_chance 18 = .ok (.ifCond .eq 25, 3)) ∧ (decode cX11_chance 21 = .ok (.iload_n 3, 1)) ∧ (decode cX11_chance 22 = .ok (.iconst 1, 1)) := by decide +kernel
theorem dX11_chance_0 : decode cX11_chance 0 = .ok (.aload_n 0, 1) := dGR_17_c_535.1
theorem dX11_chance_1 : decode cX11_chance 1 = .ok (.getfield 26, 3) := dGR_17_c_535.2.1
theorem dX11_chance_4 : decode cX11_chance 4 = .ok (.iload_n 1, 1) := dGR_17_c_535.2.2.1
theorem dX11_chance_5 : decode cX11_chance 5 = .ok (.invokevirtual 163, 3) := dGR_17_c_535.2.2.2.1
theorem dX11_chance_8 : decode cX11_chance 8 = .ok (.ifCond .eq 35, 3) := dGR_17_c_535.2.2.2.2.1
theorem dX11_chance_11 : decode cX11_chance 11 = .ok (.iload_n 2, 1) := dGR_17_c_535.2.2.2.2.2.1
theorem dX11_chance_12 : decode cX11_chance 12 = .ok (.iconst 0, 1) := dGR_17_c_535.2.2.2.2.2.2.1
theorem dX11_chance_13 : decode cX11_chance 13 = .ok (.bipush 20, 2) := dGR_17_c_535.2.2.2.2.2.2.2.1
theorem dX11_chance_15 : decode cX11_chance 15 = .ok (.invokestatic 87, 3) := dGR_17_c_535.2.2.2.2.2.2.2.2.1
theorem dX11_chance_18 : decode cX11_chance 18 = .ok (.ifCond .eq 25, 3) := dGR_17_c_535.2.2.2.2.2.2.2.2.2.1
theorem dX11_chance_21 : decode cX11_chance 21 = .ok (.iload_n 3, 1) := dGR_17_c_535.2.2.2.2.2.2.2.2.2.2.1
theorem dX11_chance_22 : decode cX11_chance 22 = .ok (.iconst 1, 1) := dGR_17_c_535.2.2.2.2.2.2.2.2.2.2.2
set_option maxRecDepth 100000 in
theorem dGR_17_c_536 : (decode cX11_chance 23 = .ok (.bipush 50, 2)) ∧ (decode cX11_chance 25 = .ok (.invokestatic 87, 3)) ∧ (decode cX11_chance 28 = .ok (.ifCond .eq 15, 3)) ∧ (decode cX11_chance 31 = .ok (.iload 4, 2)) ∧ (decode cX11_chance 33 = .ok (.iconst 0, 1)) ∧ (decode cX11_chance 34 = .ok (.sipush 9999, 3)) ∧ (decode cX11_chance 37 = .ok (.invokestatic 87, 3)) ∧ (decode cX11_chance 40 = .ok (.ifCond .ne 9, 3)) ∧ (decode cX11_chance 43 = .ok (.aload_n 0, 1)) ∧ (decode cX11_chance 44 = .ok (.iconst 1, 1)) ∧ (decode cX11_chance 45 = .ok (.invokevirtual 91, 3)) ∧ (decode cX11_chance 48 = .ok (.ireturn, 1)) := by decide +kernel
theorem dX11_chance_23 : decode cX11_chance 23 = .ok (.bipush 50, 2) := dGR_17_c_536.1
theorem dX11_chance_25 : decode cX11_chance 25 = .ok (.invokestatic 87, 3) := dGR_17_c_536.2.1
theorem dX11_chance_28 : decode cX11_chance 28 = .ok (.ifCond .eq 15, 3) := dGR_17_c_536.2.2.1
theorem dX11_chance_31 : decode cX11_chance 31 = .ok (.iload 4, 2) := dGR_17_c_536.2.2.2.1
theorem dX11_chance_33 : decode cX11_chance 33 = .ok (.iconst 0, 1) := dGR_17_c_536.2.2.2.2.1
theorem dX11_chance_34 : decode cX11_chance 34 = .ok (.sipush 9999, 3) := dGR_17_c_536.2.2.2.2.2.1
theorem dX11_chance_37 : decode cX11_chance 37 = .ok (.invokestatic 87, 3) := dGR_17_c_536.2.2.2.2.2.2.1
theorem dX11_chance_40 : decode cX11_chance 40 = .ok (.ifCond .ne 9, 3) := dGR_17_c_536.2.2.2.2.2.2.2.1
theorem dX11_chance_43 : decode cX11_chance 43 = .ok (.aload_n 0, 1) := dGR_17_c_536.2.2.2.2.2.2.2.2.1
theorem dX11_chance_44 : decode cX11_chance 44 = .ok (.iconst 1, 1) := dGR_17_c_536.2.2.2.2.2.2.2.2.2.1
theorem dX11_chance_45 : decode cX11_chance 45 = .ok (.invokevirtual 91, 3) := dGR_17_c_536.2.2.2.2.2.2.2.2.2.2.1
theorem dX11_chance_48 : decode cX11_chance 48 = .ok (.ireturn, 1) := dGR_17_c_536.2.2.2.2.2.2.2.2.2.2.2
set_option maxRecDepth 100000 in
theorem dGR_17_c_537 : (decode cX11_chance 49 = .ok (.aload_n 0, 1)) ∧ (decode cX11_chance 50 = .ok (.getfield 26, 3)) ∧ (decode cX11_chance 53 = .ok (.getfield 160, 3)) ∧ (decode cX11_chance 56 = .ok (.ifCond .ne 14, 3)) ∧ (decode cX11_chance 59 = .ok (.iload_n 2, 1)) ∧ (decode cX11_chance 60 = .ok (.ifCond .le 10, 3)) ∧ (decode cX11_chance 63 = .ok (.aload_n 0, 1)) ∧ (decode cX11_chance 64 = .ok (.bipush 6, 2)) ∧ (decode cX11_chance 66 = .ok (.invokevirtual 91, 3)) ∧ (decode cX11_chance 69 = .ok (.ireturn, 1)) ∧ (decode cX11_chance 70 = .ok (.aload_n 0, 1)) ∧ (decode cX11_chance 71 = .ok (.getfield 26, 3)) := by decide +kernel
theorem dX11_chance_49 : decode cX11_chance 49 = .ok (.aload_n 0, 1) := dGR_17_c_537.1
theorem dX11_chance_50 : decode cX11_chance 50 = .ok (.getfield 26, 3) := dGR_17_c_537.2.1
theorem dX11_chance_53 : decode cX11_chance 53 = .ok (.getfield 160, 3) := dGR_17_c_537.2.2.1
theorem dX11_chance_56 : decode cX11_chance 56 = .ok (.ifCond .ne 14, 3) := dGR_17_c_537.2.2.2.1
theorem dX11_chance_59 : decode cX11_chance 59 = .ok (.iload_n 2, 1) := dGR_17_c_537.2.2.2.2.1
theorem dX11_chance_60 : decode cX11_chance 60 = .ok (.ifCond .le 10, 3) := dGR_17_c_537.2.2.2.2.2.1
theorem dX11_chance_63 : decode cX11_chance 63 = .ok (.aload_n 0, 1) := dGR_17_c_537.2.2.2.2.2.2.1
theorem dX11_chance_64 : decode cX11_chance 64 = .ok (.bipush 6, 2) := dGR_17_c_537.2.2.2.2.2.2.2.1
theorem dX11_chance_66 : decode cX11_chance 66 = .ok (.invokevirtual 91, 3) := dGR_17_c_537.2.2.2.2.2.2.2.2.1
theorem dX11_chance_69 : decode cX11_chance 69 = .ok (.ireturn, 1) := dGR_17_c_537.2.2.2.2.2.2.2.2.2.1
theorem dX11_chance_70 : decode cX11_chance 70 = .ok (.aload_n 0, 1) := dGR_17_c_537.2.2.2.2.2.2.2.2.2.2.1
theorem dX11_chance_71 : decode cX11_chance 71 = .ok (.getfield 26, 3) := dGR_17_c_537.2.2.2.2.2.2.2.2.2.2.2
set_option maxRecDepth 100000 in
theorem dGR_17_c_538 : (decode cX11_chance 74 = .ok (.iload_n 1, 1)) ∧ (decode cX11_chance 75 = .ok (.invokevirtual 164, 3)) ∧ (decode cX11_chance 78 = .ok (.astore 5, 2)) ∧ (decode cX11_chance 80 = .ok (.aload_n 0, 1)) ∧ (decode cX11_chance 81 = .ok (.iload 4, 2)) ∧ (decode cX11_chance 83 = .ok (.putfield 357, 3)) ∧ (decode cX11_chance 86 = .ok (.iconst 0, 1)) ∧ (decode cX11_chance 87 = .ok (.istore 6, 2)) ∧ (decode cX11_chance 89 = .ok (.iconst 0, 1)) ∧ (decode cX11_chance 90 = .ok (.istore 7, 2)) ∧ (decode cX11_chance 92 = .ok (.iload 7, 2)) ∧ (decode cX11_chance 94 = .ok (.iload_n 3, 1)) := by decide +kernel
theorem dX11_chance_74 : decode cX11_chance 74 = .ok (.iload_n 1, 1) := dGR_17_c_538.1
theorem dX11_chance_75 : decode cX11_chance 75 = .ok (.invokevirtual 164, 3) := dGR_17_c_538.2.1
theorem dX11_chance_78 : decode cX11_chance 78 = .ok (.astore 5, 2) := dGR_17_c_538.2.2.1
theorem dX11_chance_80 : decode cX11_chance 80 = .ok (.aload_n 0, 1) := dGR_17_c_538.2.2.2.1
theorem dX11_chance_81 : decode cX11_chance 81 = .ok (.iload 4, 2) := dGR_17_c_538.2.2.2.2.1
theorem dX11_chance_83 : decode cX11_chance 83 = .ok (.putfield 357, 3) := dGR_17_c_538.2.2.2.2.2.1
theorem dX11_chance_86 : decode cX11_chance 86 = .ok (.iconst 0, 1) := dGR_17_c_538.2.2.2.2.2.2.1
theorem dX11_chance_87 : decode cX11_chance 87 = .ok (.istore 6, 2) := dGR_17_c_538.2.2.2.2.2.2.2.1
theorem dX11_chance_89 : decode cX11_chance 89 = .ok (.iconst 0, 1) := dGR_17_c_538.2.2.2.2.2.2.2.2.1
theorem dX11_chance_90 : decode cX11_chance 90 = .ok (.istore 7, 2) := dGR_17_c_538.2.2.2.2.2.2.2.2.2.1
theorem dX11_chance_92 : decode cX11_chance 92 = .ok (.iload 7, 2) := dGR_17_c_538.2.2.2.2.2.2.2.2.2.2.1
theorem dX11_chance_94 : decode cX11_chance 94 = .ok (.iload_n 3, 1) := dGR_17_c_538.2.2.2.2.2.2.2.2.2.2.2
set_option maxRecDepth 100000 in
theorem dGR_17_c_539 : (decode cX11_chance 95 = .ok (.if_icmp .ge 38, 3)) ∧ (decode cX11_chance 98 = .ok (.aload_n 0, 1)) ∧ (decode cX11_chance 99 = .ok (.aload 5, 2)) ∧ (decode cX11_chance 101 = .ok (.iload_n 2, 1)) ∧ (decode cX11_chance 102 = .ok (.invokevirtual 363, 3)) ∧ (decode cX11_chance 105 = .ok (.iload 6, 2)) ∧ (decode cX11_chance 107 = .ok (.aload_n 0, 1)) ∧ (decode cX11_chance 108 = .ok (.getfield 61, 3)) ∧ (decode cX11_chance 111 = .ok (.aload 5, 2)) ∧ (decode cX11_chance 113 = .ok (.invokevirtual 234, 3)) ∧ (decode cX11_chance 116 = .ok (.ifCond .eq 7, 3)) ∧ (decode cX11_chance 119 = .ok (.iconst 1, 1)) := by decide +kernel
theorem dX11_chance_95 : decode cX11_chance 95 = .ok (.if_icmp .ge 38, 3) := dGR_17_c_539.1
theorem dX11_chance_98 : decode cX11_chance 98 = .ok (.aload_n 0, 1) := dGR_17_c_539.2.1
theorem dX11_chance_99 : decode cX11_chance 99 = .ok (.aload 5, 2) := dGR_17_c_539.2.2.1
theorem dX11_chance_101 : decode cX11_chance 101 = .ok (.iload_n 2, 1) := dGR_17_c_539.2.2.2.1
theorem dX11_chance_102 : decode cX11_chance 102 = .ok (.invokevirtual 363, 3) := dGR_17_c_539.2.2.2.2.1
theorem dX11_chance_105 : decode cX11_chance 105 = .ok (.iload 6, 2) := dGR_17_c_539.2.2.2.2.2.1
theorem dX11_chance_107 : decode cX11_chance 107 = .ok (.aload_n 0, 1) := dGR_17_c_539.2.2.2.2.2.2.1
theorem dX11_chance_108 : decode cX11_chance 108 = .ok (.getfield 61, 3) := dGR_17_c_539.2.2.2.2.2.2.2.1
theorem dX11_chance_111 : decode cX11_chance 111 = .ok (.aload 5, 2) := dGR_17_c_539.2.2.2.2.2.2.2.2.1
theorem dX11_chance_113 : decode cX11_chance 113 = .ok (.invokevirtual 234, 3) := dGR_17_c_539.2.2.2.2.2.2.2.2.2.1
theorem dX11_chance_116 : decode cX11_chance 116 = .ok (.ifCond .eq 7, 3) := dGR_17_c_539.2.2.2.2.2.2.2.2.2.2.1
theorem dX11_chance_119 : decode cX11_chance 119 = .ok (.iconst 1, 1) := dGR_17_c_539.2.2.2.2.2.2.2.2.2.2.2
set_option maxRecDepth 100000 in
theorem dGR_17_c_540 : (decode cX11_chance 120 = .ok (.goto 4, 3)) ∧ (decode cX11_chance 123 = .ok (.iconst 0, 1)) ∧ (decode cX11_chance 124 = .ok (.iadd, 1)) ∧ (decode cX11_chance 125 = .ok (.istore 6, 2)) ∧ (decode cX11_chance 127 = .ok (.iinc 7 1, 3)) ∧ (decode cX11_chance 130 = .ok (.goto (-38), 3)) ∧ (decode cX11_chance 133 = .ok (.aload_n 0, 1)) ∧ (decode cX11_chance 134 = .ok (.iload 6, 2)) ∧ (decode cX11_chance 136 = .ok (.i2l, 1)) ∧ (decode cX11_chance 137 = .ok (.iload_n 3, 1)) ∧ (decode cX11_chance 138 = .ok (.i2l, 1)) ∧ (decode cX11_chance 139 = .ok (.invokevirtual 252, 3)) := by decide +kernel
theorem dX11_chance_120 : decode cX11_chance 120 = .ok (.goto 4, 3) := dGR_17_c_540.1
theorem dX11_chance_123 : decode cX11_chance 123 = .ok (.iconst 0, 1) := dGR_17_c_540.2.1
theorem dX11_chance_124 : decode cX11_chance 124 = .ok (.iadd, 1) := dGR_17_c_540.2.2.1
theorem dX11_chance_125 : decode cX11_chance 125 = .ok (.istore 6, 2) := dGR_17_c_540.2.2.2.1
theorem dX11_chance_127 : decode cX11_chance 127 = .ok (.iinc 7 1, 3) := dGR_17_c_540.2.2.2.2.1
theorem dX11_chance_130 : decode cX11_chance 130 = .ok (.goto (-38), 3) := dGR_17_c_540.2.2.2.2.2.1
theorem dX11_chance_133 : decode cX11_chance 133 = .ok (.aload_n 0, 1) := dGR_17_c_540.2.2.2.2.2.2.1
theorem dX11_chance_134 : decode cX11_chance 134 = .ok (.iload 6, 2) := dGR_17_c_540.2.2.2.2.2.2.2.1
theorem dX11_chance_136 : decode cX11_chance 136 = .ok (.i2l, 1) := dGR_17_c_540.2.2.2.2.2.2.2.2.1
theorem dX11_chance_137 : decode cX11_chance 137 = .ok (.iload_n 3, 1) := dGR_17_c_540.2.2.2.2.2.2.2.2.2.1
theorem dX11_chance_138 : decode cX11_chance 138 = .ok (.i2l, 1) := dGR_17_c_540.2.2.2.2.2.2.2.2.2.2.1
theorem dX11_chance_139 : decode cX11_chance 139 = .ok (.invokevirtual 252, 3) := dGR_17_c_540.2.2.2.2.2.2.2.2.2.2.2
set_option maxRecDepth 100000 in
theorem dGR_17_c_541 : (decode cX11_chance 142 = .ok (.aload_n 0, 1)) ∧ (decode cX11_chance 143 = .ok (.invokevirtual 98, 3)) ∧ (decode cX11_chance 146 = .ok (.ireturn, 1)) := by decide +kernel
theorem dX11_chance_142 : decode cX11_chance 142 = .ok (.aload_n 0, 1) := dGR_17_c_541.1
theorem dX11_chance_143 : decode cX11_chance 143 = .ok (.invokevirtual 98, 3) := dGR_17_c_541.2.1
theorem dX11_chance_146 : decode cX11_chance 146 = .ok (.ireturn, 1) := dGR_17_c_541.2.2
set_option maxRecDepth 100000 in
theorem dGR_17_c_542 : (decode cX11_watch 0 = .ok (.aload_n 0, 1)) ∧ (decode cX11_watch 1 = .ok (.getfield 26, 3)) ∧ (decode cX11_watch 4 = .ok (.iload_n 1, 1)) ∧ (decode cX11_watch 5 = .ok (.invokevirtual 163, 3)) ∧ (decode cX11_watch 8 = .ok (.ifCond .ne 9, 3)) ∧ (decode cX11_watch 11 = .ok (.aload_n 0, 1)) ∧ (decode cX11_watch 12 = .ok (.iconst 1, 1)) ∧ (decode cX11_watch 13 = .ok (.invokevirtual 110, 3)) ∧ (decode cX11_watch 16 = .ok (.ireturn, 1)) ∧ (decode cX11_watch 17 = .ok (.aload_n 0, 1)) ∧ (decode cX11_watch 18 = .ok (.getfield 26, 3)) ∧ (decode cX11_watch 21 = .ok (.iload_n 1, 1)) := by decide +kernel
theorem dX11_watch_0 : decode cX11_watch 0 = .ok (.aload_n 0, 1) := dGR_17_c_542.1
theorem dX11_watch_1 : decode cX11_watch 1 = .ok (.getfield 26, 3) := dGR_17_c_542.2.1
theorem dX11_watch_4 : decode cX11_watch 4 = .ok (.iload_n 1, 1) := dGR_17_c_542.2.2.1
theorem dX11_watch_5 : decode cX11_watch 5 = .ok (.invokevirtual 163, 3) := dGR_17_c_542.2.2.2.1
theorem dX11_watch_8 : decode cX11_watch 8 = .ok (.ifCond .ne 9, 3) := dGR_17_c_542.2.2.2.2.1
theorem dX11_watch_11 : decode cX11_watch 11 = .ok (.aload_n 0, 1) := dGR_17_c_542.2.2.2.2.2.1
theorem dX11_watch_12 : decode cX11_watch 12 = .ok (.iconst 1, 1) := dGR_17_c_542.2.2.2.2.2.2.1
theorem dX11_watch_13 : decode cX11_watch 13 = .ok (.invokevirtual 110, 3) := dGR_17_c_542.2.2.2.2.2.2.2.1
theorem dX11_watch_16 : decode cX11_watch 16 = .ok (.ireturn, 1) := dGR_17_c_542.2.2.2.2.2.2.2.2.1
theorem dX11_watch_17 : decode cX11_watch 17 = .ok (.aload_n 0, 1) := dGR_17_c_542.2.2.2.2.2.2.2.2.2.1
theorem dX11_watch_18 : decode cX11_watch 18 = .ok (.getfield 26, 3) := dGR_17_c_542.2.2.2.2.2.2.2.2.2.2.1
theorem dX11_watch_21 : decode cX11_watch 21 = .ok (.iload_n 1, 1) := dGR_17_c_542.2.2.2.2.2.2.2.2.2.2.2
set_option maxRecDepth 100000 in
theorem dGR_17_c_543 : (decode cX11_watch 22 = .ok (.invokevirtual 164, 3)) ∧ (decode cX11_watch 25 = .ok (.astore_n 2, 1)) ∧ (decode cX11_watch 26 = .ok (.aload_n 0, 1)) ∧ (decode cX11_watch 27 = .ok (.getfield 26, 3)) ∧ (decode cX11_watch 30 = .ok (.getfield 367, 3)) ∧ (decode cX11_watch 33 = .ok (.aload_n 2, 1)) ∧ (decode cX11_watch 34 = .ok (.invokevirtual 370, 3)) ∧ (decode cX11_watch 37 = .ok (.aload_n 0, 1)) ∧ (decode cX11_watch 38 = .ok (.getfield 26, 3)) ∧ (decode cX11_watch 41 = .ok (.getfield 367, 3)) ∧ (decode cX11_watch 44 = .ok (.iload_n 1, 1)) ∧ (decode cX11_watch 45 = .ok (.putfield 372, 3)) := by decide +kernel
theorem dX11_watch_22 : decode cX11_watch 22 = .ok (.invokevirtual 164, 3) := dGR_17_c_543.1
theorem dX11_watch_25 : decode cX11_watch 25 = .ok (.astore_n 2, 1) := dGR_17_c_543.2.1
theorem dX11_watch_26 : decode cX11_watch 26 = .ok (.aload_n 0, 1) := dGR_17_c_543.2.2.1
theorem dX11_watch_27 : decode cX11_watch 27 = .ok (.getfield 26, 3) := dGR_17_c_543.2.2.2.1
theorem dX11_watch_30 : decode cX11_watch 30 = .ok (.getfield 367, 3) := dGR_17_c_543.2.2.2.2.1
theorem dX11_watch_33 : decode cX11_watch 33 = .ok (.aload_n 2, 1) := dGR_17_c_543.2.2.2.2.2.1
theorem dX11_watch_34 : decode cX11_watch 34 = .ok (.invokevirtual 370, 3) := dGR_17_c_543.2.2.2.2.2.2.1
theorem dX11_watch_37 : decode cX11_watch 37 = .ok (.aload_n 0, 1) := dGR_17_c_543.2.2.2.2.2.2.2.1
theorem dX11_watch_38 : decode cX11_watch 38 = .ok (.getfield 26, 3) := dGR_17_c_543.2.2.2.2.2.2.2.2.1
theorem dX11_watch_41 : decode cX11_watch 41 = .ok (.getfield 367, 3) := dGR_17_c_543.2.2.2.2.2.2.2.2.2.1
theorem dX11_watch_44 : decode cX11_watch 44 = .ok (.iload_n 1, 1) := dGR_17_c_543.2.2.2.2.2.2.2.2.2.2.1
theorem dX11_watch_45 : decode cX11_watch 45 = .ok (.putfield 372, 3) := dGR_17_c_543.2.2.2.2.2.2.2.2.2.2.2
set_option maxRecDepth 100000 in
theorem dGR_17_c_544 : (decode cX11_watch 48 = .ok (.aload_n 0, 1)) ∧ (decode cX11_watch 49 = .ok (.aload_n 0, 1)) ∧ (decode cX11_watch 50 = .ok (.getfield 26, 3)) ∧ (decode cX11_watch 53 = .ok (.getfield 367, 3)) ∧ (decode cX11_watch 56 = .ok (.aload_n 2, 1)) ∧ (decode cX11_watch 57 = .ok (.invokevirtual 234, 3)) ∧ (decode cX11_watch 60 = .ok (.ifCond .eq 7, 3)) ∧ (decode cX11_watch 63 = .ok (.iconst 1, 1)) ∧ (decode cX11_watch 64 = .ok (.goto 4, 3)) ∧ (decode cX11_watch 67 = .ok (.iconst 0, 1)) ∧ (decode cX11_watch 68 = .ok (.invokevirtual 145, 3)) ∧ (decode cX11_watch 71 = .ok (.ireturn, 1)) := by decide +kernel
theorem dX11_watch_48 : decode cX11_watch 48 = .ok (.aload_n 0, 1) := dGR_17_c_544.1
theorem dX11_watch_49 : decode cX11_watch 49 = .ok (.aload_n 0, 1) := dGR_17_c_544.2.1
theorem dX11_watch_50 : decode cX11_watch 50 = .ok (.getfield 26, 3) := dGR_17_c_544.2.2.1
theorem dX11_watch_53 : decode cX11_watch 53 = .ok (.getfield 367, 3) := dGR_17_c_544.2.2.2.1
theorem dX11_watch_56 : decode cX11_watch 56 = .ok (.aload_n 2, 1) := dGR_17_c_544.2.2.2.2.1
theorem dX11_watch_57 : decode cX11_watch 57 = .ok (.invokevirtual 234, 3) := dGR_17_c_544.2.2.2.2.2.1
theorem dX11_watch_60 : decode cX11_watch 60 = .ok (.ifCond .eq 7, 3) := dGR_17_c_544.2.2.2.2.2.2.1
theorem dX11_watch_63 : decode cX11_watch 63 = .ok (.iconst 1, 1) := dGR_17_c_544.2.2.2.2.2.2.2.1
theorem dX11_watch_64 : decode cX11_watch 64 = .ok (.goto 4, 3) := dGR_17_c_544.2.2.2.2.2.2.2.2.1
theorem dX11_watch_67 : decode cX11_watch 67 = .ok (.iconst 0, 1) := dGR_17_c_544.2.2.2.2.2.2.2.2.2.1
theorem dX11_watch_68 : decode cX11_watch 68 = .ok (.invokevirtual 145, 3) := dGR_17_c_544.2.2.2.2.2.2.2.2.2.2.1
theorem dX11_watch_71 : decode cX11_watch 71 = .ok (.ireturn, 1) := dGR_17_c_544.2.2.2.2.2.2.2.2.2.2.2
set_option maxRecDepth 100000 in
theorem dGR_17_c_545 : (decode cX11_see 0 = .ok (.aload_n 0, 1)) ∧ (decode cX11_see 1 = .ok (.getfield 26, 3)) ∧ (decode cX11_see 4 = .ok (.iload_n 1, 1)) ∧ (decode cX11_see 5 = .ok (.invokevirtual 286, 3)) ∧ (decode cX11_see 8 = .ok (.ifCond .ne 9, 3)) ∧ (decode cX11_see 11 = .ok (.aload_n 0, 1)) ∧ (decode cX11_see 12 = .ok (.iconst 1, 1)) ∧ (decode cX11_see 13 = .ok (.invokevirtual 110, 3)) ∧ (decode cX11_see 16 = .ok (.ireturn, 1)) ∧ (decode cX11_see 17 = .ok (.aload_n 0, 1)) ∧ (decode cX11_see 18 = .ok (.getfield 26, 3)) ∧ (decode cX11_see 21 = .ok (.getfield 367, 3)) := by decide +kernel
theorem dX11_see_0 : decode cX11_see 0 = .ok (.aload_n 0, 1) := dGR_17_c_545.1
theorem dX11_see_1 : decode cX11_see 1 = .ok (.getfield 26, 3) := dGR_17_c_545.2.1
theorem dX11_see_4 : decode cX11_see 4 = .ok (.iload_n 1, 1) := dGR_17_c_545.2.2.1
theorem dX11_see_5 : decode cX11_see 5 = .ok (.invokevirtual 286, 3) := dGR_17_c_545.2.2.2.1
theorem dX11_see_8 : decode cX11_see 8 = .ok (.ifCond .ne 9, 3) := dGR_17_c_545.2.2.2.2.1
theorem dX11_see_11 : decode cX11_see 11 = .ok (.aload_n 0, 1) := dGR_17_c_545.2.2.2.2.2.1
theorem dX11_see_12 : decode cX11_see 12 = .ok (.iconst 1, 1) := dGR_17_c_545.2.2.2.2.2.2.1
theorem dX11_see_13 : decode cX11_see 13 = .ok (.invokevirtual 110, 3) := dGR_17_c_545.2.2.2.2.2.2.2.1
theorem dX11_see_16 : decode cX11_see 16 = .ok (.ireturn, 1) := dGR_17_c_545.2.2.2.2.2.2.2.2.1
theorem dX11_see_17 : decode cX11_see 17 = .ok (.aload_n 0, 1) := dGR_17_c_545.2.2.2.2.2.2.2.2.2.1
theorem dX11_see_18 : decode cX11_see 18 = .ok (.getfield 26, 3) := dGR_17_c_545.2.2.2.2.2.2.2.2.2.2.1
theorem dX11_see_21 : decode cX11_see 21 = .ok (.getfield 367, 3) := dGR_17_c_545.2.2.2.2.2.2.2.2.2.2.2
set_option maxRecDepth 100000 in
theorem dGR_17_c_546 : (decode cX11_see 24 = .ok (.astore_n 2, 1)) ∧ (decode cX11_see 25 = .ok (.aload_n 2, 1)) ∧ (decode cX11_see 26 = .ok (.getfield 372, 3)) ∧ (decode cX11_see 29 = .ok (.iconst (-1), 1)) ∧ (decode cX11_see 30 = .ok (.if_icmp .ne 10, 3)) ∧ (decode cX11_see 33 = .ok (.aload_n 0, 1)) ∧ (decode cX11_see 34 = .ok (.bipush 6, 2)) ∧ (decode cX11_see 36 = .ok (.invokevirtual 110, 3)) ∧ (decode cX11_see 39 = .ok (.ireturn, 1)) ∧ (decode cX11_see 40 = .ok (.aload_n 0, 1)) ∧ (decode cX11_see 41 = .ok (.getfield 26, 3)) ∧ (decode cX11_see 44 = .ok (.iload_n 1, 1)) := by decide +kernel
theorem dX11_see_24 : decode cX11_see 24 = .ok (.astore_n 2, 1) := dGR_17_c_546.1
theorem dX11_see_25 : decode cX11_see 25 = .ok (.aload_n 2, 1) := dGR_17_c_546.2.1
theorem dX11_see_26 : decode cX11_see 26 = .ok (.getfield 372, 3) := dGR_17_c_546.2.2.1
theorem dX11_see_29 : decode cX11_see 29 = .ok (.iconst (-1), 1) := dGR_17_c_546.2.2.2.1
theorem dX11_see_30 : decode cX11_see 30 = .ok (.if_icmp .ne 10, 3) := dGR_17_c_546.2.2.2.2.1
theorem dX11_see_33 : decode cX11_see 33 = .ok (.aload_n 0, 1) := dGR_17_c_546.2.2.2.2.2.1
theorem dX11_see_34 : decode cX11_see 34 = .ok (.bipush 6, 2) := dGR_17_c_546.2.2.2.2.2.2.1
theorem dX11_see_36 : decode cX11_see 36 = .ok (.invokevirtual 110, 3) := dGR_17_c_546.2.2.2.2.2.2.2.1
theorem dX11_see_39 : decode cX11_see 39 = .ok (.ireturn, 1) := dGR_17_c_546.2.2.2.2.2.2.2.2.1
theorem dX11_see_40 : decode cX11_see 40 = .ok (.aload_n 0, 1) := dGR_17_c_546.2.2.2.2.2.2.2.2.2.1
theorem dX11_see_41 : decode cX11_see 41 = .ok (.getfield 26, 3) := dGR_17_c_546.2.2.2.2.2.2.2.2.2.2.1
theorem dX11_see_44 : decode cX11_see 44 = .ok (.iload_n 1, 1) := dGR_17_c_546.2.2.2.2.2.2.2.2.2.2.2
set_option maxRecDepth 100000 in
theorem dGR_17_c_547 : (decode cX11_see 45 = .ok (.invokevirtual 242, 3)) ∧ (decode cX11_see 48 = .ok (.istore_n 3, 1)) ∧ (decode cX11_see 49 = .ok (.iload_n 3, 1)) ∧ (decode cX11_see 50 = .ok (.ifCond .ne 18, 3)) ∧ (decode cX11_see 53 = .ok (.aload_n 2, 1)) ∧ (decode cX11_see 54 = .ok (.getfield 375, 3)) ∧ (decode cX11_see 57 = .ok (.bipush 30, 2)) ∧ (decode cX11_see 59 = .ok (.if_icmp .lt 9, 3)) ∧ (decode cX11_see 62 = .ok (.aload_n 0, 1)) ∧ (decode cX11_see 63 = .ok (.iconst 4, 1)) ∧ (decode cX11_see 64 = .ok (.invokevirtual 110, 3)) ∧ (decode cX11_see 67 = .ok (.ireturn, 1)) := by decide +kernel
theorem dX11_see_45 : decode cX11_see 45 = .ok (.invokevirtual 242, 3) := dGR_17_c_547.1
theorem dX11_see_48 : decode cX11_see 48 = .ok (.istore_n 3, 1) := dGR_17_c_547.2.1
theorem dX11_see_49 : decode cX11_see 49 = .ok (.iload_n 3, 1) := dGR_17_c_547.2.2.1
theorem dX11_see_50 : decode cX11_see 50 = .ok (.ifCond .ne 18, 3) := dGR_17_c_547.2.2.2.1
theorem dX11_see_53 : decode cX11_see 53 = .ok (.aload_n 2, 1) := dGR_17_c_547.2.2.2.2.1
theorem dX11_see_54 : decode cX11_see 54 = .ok (.getfield 375, 3) := dGR_17_c_547.2.2.2.2.2.1
theorem dX11_see_57 : decode cX11_see 57 = .ok (.bipush 30, 2) := dGR_17_c_547.2.2.2.2.2.2.1
theorem dX11_see_59 : decode cX11_see 59 = .ok (.if_icmp .lt 9, 3) := dGR_17_c_547.2.2.2.2.2.2.2.1
theorem dX11_see_62 : decode cX11_see 62 = .ok (.aload_n 0, 1) := dGR_17_c_547.2.2.2.2.2.2.2.2.1
theorem dX11_see_63 : decode cX11_see 63 = .ok (.iconst 4, 1) := dGR_17_c_547.2.2.2.2.2.2.2.2.2.1
theorem dX11_see_64 : decode cX11_see 64 = .ok (.invokevirtual 110, 3) := dGR_17_c_547.2.2.2.2.2.2.2.2.2.2.1
theorem dX11_see_67 : decode cX11_see 67 = .ok (.ireturn, 1) := dGR_17_c_547.2.2.2.2.2.2.2.2.2.2.2
set_option maxRecDepth 100000 in
theorem dGR_17_c_548 : (decode cX11_see 68 = .ok (.aload_n 0, 1)) ∧ (decode cX11_see 69 = .ok (.getfield 26, 3)) ∧ (decode cX11_see 72 = .ok (.aload_n 2, 1)) ∧ (decode cX11_see 73 = .ok (.getfield 372, 3)) ∧ (decode cX11_see 76 = .ok (.invokevirtual 164, 3)) ∧ (decode cX11_see 79 = .ok (.astore 4, 2)) ∧ (decode cX11_see 81 = .ok (.aload_n 2, 1)) ∧ (decode cX11_see 82 = .ok (.aload 4, 2)) ∧ (decode cX11_see 84 = .ok (.iload_n 1, 1)) ∧ (decode cX11_see 85 = .ok (.iload_n 3, 1)) ∧ (decode cX11_see 86 = .ok (.invokevirtual 378, 3)) ∧ (decode cX11_see 89 = .ok (.aload_n 0, 1)) := by decide +kernel
theorem dX11_see_68 : decode cX11_see 68 = .ok (.aload_n 0, 1) := dGR_17_c_548.1
theorem dX11_see_69 : decode cX11_see 69 = .ok (.getfield 26, 3) := dGR_17_c_548.2.1
theorem dX11_see_72 : decode cX11_see 72 = .ok (.aload_n 2, 1) := dGR_17_c_548.2.2.1
theorem dX11_see_73 : decode cX11_see 73 = .ok (.getfield 372, 3) := dGR_17_c_548.2.2.2.1
theorem dX11_see_76 : decode cX11_see 76 = .ok (.invokevirtual 164, 3) := dGR_17_c_548.2.2.2.2.1
theorem dX11_see_79 : decode cX11_see 79 = .ok (.astore 4, 2) := dGR_17_c_548.2.2.2.2.2.1
theorem dX11_see_81 : decode cX11_see 81 = .ok (.aload_n 2, 1) := dGR_17_c_548.2.2.2.2.2.2.1
theorem dX11_see_82 : decode cX11_see 82 = .ok (.aload 4, 2) := dGR_17_c_548.2.2.2.2.2.2.2.1
theorem dX11_see_84 : decode cX11_see 84 = .ok (.iload_n 1, 1) := dGR_17_c_548.2.2.2.2.2.2.2.2.1
theorem dX11_see_85 : decode cX11_see 85 = .ok (.iload_n 3, 1) := dGR_17_c_548.2.2.2.2.2.2.2.2.2.1
theorem dX11_see_86 : decode cX11_see 86 = .ok (.invokevirtual 378, 3) := dGR_17_c_548.2.2.2.2.2.2.2.2.2.2.1
theorem dX11_see_89 : decode cX11_see 89 = .ok (.aload_n 0, 1) := dGR_17_c_548.2.2.2.2.2.2.2.2.2.2.2
set_option maxRecDepth 100000 in
theorem dGR_17_c_549 : (decode cX11_see 90 = .ok (.aload_n 2, 1)) ∧ (decode cX11_see 91 = .ok (.aload 4, 2)) ∧ (decode cX11_see 93 = .ok (.invokevirtual 234, 3)) ∧ (decode cX11_see 96 = .ok (.ifCond .eq 7, 3)) ∧ (decode cX11_see 99 = .ok (.iconst 1, 1)) ∧ (decode cX11_see 100 = .ok (.goto 4, 3)) ∧ (decode cX11_see 103 = .ok (.iconst 0, 1)) ∧ (decode cX11_see 104 = .ok (.invokevirtual 145, 3)) ∧ (decode cX11_see 107 = .ok (.ireturn, 1)) := by decide +kernel
theorem dX11_see_90 : decode cX11_see 90 = .ok (.aload_n 2, 1) := dGR_17_c_549.1
theorem dX11_see_91 : decode cX11_see 91 = .ok (.aload 4, 2) := dGR_17_c_549.2.1
theorem dX11_see_93 : decode cX11_see 93 = .ok (.invokevirtual 234, 3) := dGR_17_c_549.2.2.1
theorem dX11_see_96 : decode cX11_see 96 = .ok (.ifCond .eq 7, 3) := dGR_17_c_549.2.2.2.1
theorem dX11_see_99 : decode cX11_see 99 = .ok (.iconst 1, 1) := dGR_17_c_549.2.2.2.2.1
theorem dX11_see_100 : decode cX11_see 100 = .ok (.goto 4, 3) := dGR_17_c_549.2.2.2.2.2.1
theorem dX11_see_103 : decode cX11_see 103 = .ok (.iconst 0, 1) := dGR_17_c_549.2.2.2.2.2.2.1
theorem dX11_see_104 : decode cX11_see 104 = .ok (.invokevirtual 145, 3) := dGR_17_c_549.2.2.2.2.2.2.2.1
theorem dX11_see_107 : decode cX11_see 107 = .ok (.ireturn, 1) := dGR_17_c_549.2.2.2.2.2.2.2.2
set_option maxRecDepth 100000 in
theorem dGR_17_c_550 : (decode cX11_seen 0 = .ok (.iload_n 1, 1)) ∧ (decode cX11_seen 1 = .ok (.iconst 0, 1)) ∧ (decode cX11_seen 2 = .ok (.iconst 4, 1)) ∧ (decode cX11_seen 3 = .ok (.invokestatic 87, 3)) ∧ (decode cX11_seen 6 = .ok (.ifCond .ne 9, 3)) ∧ (decode cX11_seen 9 = .ok (.aload_n 0, 1)) ∧ (decode cX11_seen 10 = .ok (.iconst 1, 1)) ∧ (decode cX11_seen 11 = .ok (.invokevirtual 110, 3)) ∧ (decode cX11_seen 14 = .ok (.ireturn, 1)) ∧ (decode cX11_seen 15 = .ok (.aload_n 0, 1)) ∧ (decode cX11_seen 16 = .ok (.getfield 26, 3)) ∧ (decode cX11_seen 19 = .ok (.getfield 367, 3)) := by decide +kernel
theorem dX11_seen_0 : decode cX11_seen 0 = .ok (.iload_n 1, 1) := dGR_17_c_550.1
theorem dX11_seen_1 : decode cX11_seen 1 = .ok (.iconst 0, 1) := dGR_17_c_550.2.1
theorem dX11_seen_2 : decode cX11_seen 2 = .ok (.iconst 4, 1) := dGR_17_c_550.2.2.1
theorem dX11_seen_3 : decode cX11_seen 3 = .ok (.invokestatic 87, 3) := dGR_17_c_550.2.2.2.1
theorem dX11_seen_6 : decode cX11_seen 6 = .ok (.ifCond .ne 9, 3) := dGR_17_c_550.2.2.2.2.1
theorem dX11_seen_9 : decode cX11_seen 9 = .ok (.aload_n 0, 1) := dGR_17_c_550.2.2.2.2.2.1
theorem dX11_seen_10 : decode cX11_seen 10 = .ok (.iconst 1, 1) := dGR_17_c_550.2.2.2.2.2.2.1
theorem dX11_seen_11 : decode cX11_seen 11 = .ok (.invokevirtual 110, 3) := dGR_17_c_550.2.2.2.2.2.2.2.1
theorem dX11_seen_14 : decode cX11_seen 14 = .ok (.ireturn, 1) := dGR_17_c_550.2.2.2.2.2.2.2.2.1
theorem dX11_seen_15 : decode cX11_seen 15 = .ok (.aload_n 0, 1) := dGR_17_c_550.2.2.2.2.2.2.2.2.2.1
theorem dX11_seen_16 : decode cX11_seen 16 = .ok (.getfield 26, 3) := dGR_17_c_550.2.2.2.2.2.2.2.2.2.2.1
theorem dX11_seen_19 : decode cX11_seen 19 = .ok (.getfield 367, 3) := dGR_17_c_550.2.2.2.2.2.2.2.2.2.2.2
set_option maxRecDepth 100000 in
theorem dGR_17_c_551 : (decode cX11_seen 22 = .ok (.astore_n 2, 1)) ∧ (decode cX11_seen 23 = .ok (.aload_n 2, 1)) ∧ (decode cX11_seen 24 = .ok (.getfield 372, 3)) ∧ (decode cX11_seen 27 = .ok (.iconst (-1), 1)) ∧ (decode cX11_seen 28 = .ok (.if_icmp .ne 10, 3)) ∧ (decode cX11_seen 31 = .ok (.aload_n 0, 1)) ∧ (decode cX11_seen 32 = .ok (.bipush 6, 2)) ∧ (decode cX11_seen 34 = .ok (.invokevirtual 110, 3)) ∧ (decode cX11_seen 37 = .ok (.ireturn, 1)) ∧ (decode cX11_seen 38 = .ok (.iload_n 1, 1)) ∧ (decode cX11_seen 39 = .ok (.tableswitch 65 0 3 #[29, 38, 47, 56], 29)) ∧ (decode cX11_seen 68 = .ok (.aload_n 0, 1)) := by decide +kernel
theorem dX11_seen_22 : decode cX11_seen 22 = .ok (.astore_n 2, 1) := dGR_17_c_551.1
theorem dX11_seen_23 : decode cX11_seen 23 = .ok (.aload_n 2, 1) := dGR_17_c_551.2.1
theorem dX11_seen_24 : decode cX11_seen 24 = .ok (.getfield 372, 3) := dGR_17_c_551.2.2.1
theorem dX11_seen_27 : decode cX11_seen 27 = .ok (.iconst (-1), 1) := dGR_17_c_551.2.2.2.1
theorem dX11_seen_28 : decode cX11_seen 28 = .ok (.if_icmp .ne 10, 3) := dGR_17_c_551.2.2.2.2.1
theorem dX11_seen_31 : decode cX11_seen 31 = .ok (.aload_n 0, 1) := dGR_17_c_551.2.2.2.2.2.1
theorem dX11_seen_32 : decode cX11_seen 32 = .ok (.bipush 6, 2) := dGR_17_c_551.2.2.2.2.2.2.1
theorem dX11_seen_34 : decode cX11_seen 34 = .ok (.invokevirtual 110, 3) := dGR_17_c_551.2.2.2.2.2.2.2.1
theorem dX11_seen_37 : decode cX11_seen 37 = .ok (.ireturn, 1) := dGR_17_c_551.2.2.2.2.2.2.2.2.1
theorem dX11_seen_38 : decode cX11_seen 38 = .ok (.iload_n 1, 1) := dGR_17_c_551.2.2.2.2.2.2.2.2.2.1
theorem dX11_seen_39 : decode cX11_seen 39 = .ok (.tableswitch 65 0 3 #[29, 38, 47, 56], 29) := dGR_17_c_551.2.2.2.2.2.2.2.2.2.2.1
theorem dX11_seen_68 : decode cX11_seen 68 = .ok (.aload_n 0, 1) := dGR_17_c_551.2.2.2.2.2.2.2.2.2.2.2
set_option maxRecDepth 100000 in
theorem dGR_17_c_552 : (decode cX11_seen 69 = .ok (.aload_n 2, 1)) ∧ (decode cX11_seen 70 = .ok (.getfield 372, 3)) ∧ (decode cX11_seen 73 = .ok (.invokevirtual 145, 3)) ∧ (decode cX11_seen 76 = .ok (.ireturn, 1)) ∧ (decode cX11_seen 77 = .ok (.aload_n 0, 1)) ∧ (decode cX11_seen 78 = .ok (.aload_n 2, 1)) ∧ (decode cX11_seen 79 = .ok (.getfield 379, 3)) ∧ (decode cX11_seen 82 = .ok (.invokevirtual 145, 3)) ∧ (decode cX11_seen 85 = .ok (.ireturn, 1)) ∧ (decode cX11_seen 86 = .ok (.aload_n 0, 1)) ∧ (decode cX11_seen 87 = .ok (.aload_n 2, 1)) ∧ (decode cX11_seen 88 = .ok (.getfield 375, 3)) := by decide +kernel
theorem dX11_seen_69 : decode cX11_seen 69 = .ok (.aload_n 2, 1) := dGR_17_c_552.1
theorem dX11_seen_70 : decode cX11_seen 70 = .ok (.getfield 372, 3) := dGR_17_c_552.2.1
theorem dX11_seen_73 : decode cX11_seen 73 = .ok (.invokevirtual 145, 3) := dGR_17_c_552.2.2.1
theorem dX11_seen_76 : decode cX11_seen 76 = .ok (.ireturn, 1) := dGR_17_c_552.2.2.2.1
theorem dX11_seen_77 : decode cX11_seen 77 = .ok (.aload_n 0, 1) := dGR_17_c_552.2.2.2.2.1
theorem dX11_seen_78 : decode cX11_seen 78 = .ok (.aload_n 2, 1) := dGR_17_c_552.2.2.2.2.2.1
theorem dX11_seen_79 : decode cX11_seen 79 = .ok (.getfield 379, 3) := dGR_17_c_552.2.2.2.2.2.2.1
theorem dX11_seen_82 : decode cX11_seen 82 = .ok (.invokevirtual 145, 3) := dGR_17_c_552.2.2.2.2.2.2.2.1
theorem dX11_seen_85 : decode cX11_seen 85 = .ok (.ireturn, 1) := dGR_17_c_552.2.2.2.2.2.2.2.2.1
theorem dX11_seen_86 : decode cX11_seen 86 = .ok (.aload_n 0, 1) := dGR_17_c_552.2.2.2.2.2.2.2.2.2.1
theorem dX11_seen_87 : decode cX11_seen 87 = .ok (.aload_n 2, 1) := dGR_17_c_552.2.2.2.2.2.2.2.2.2.2.1
theorem dX11_seen_88 : decode cX11_seen 88 = .ok (.getfield 375, 3) := dGR_17_c_552.2.2.2.2.2.2.2.2.2.2.2
set_option maxRecDepth 100000 in
theorem dGR_17_c_553 : (decode cX11_seen 91 = .ok (.invokevirtual 145, 3)) ∧ (decode cX11_seen 94 = .ok (.ireturn, 1)) ∧ (decode cX11_seen 95 = .ok (.aload_n 0, 1)) ∧ (decode cX11_seen 96 = .ok (.aload_n 2, 1)) ∧ (decode cX11_seen 97 = .ok (.getfield 238, 3)) ∧ (decode cX11_seen 100 = .ok (.invokevirtual 145, 3)) ∧ (decode cX11_seen 103 = .ok (.ireturn, 1)) ∧ (decode cX11_seen 104 = .ok (.aload_n 0, 1)) ∧ (decode cX11_seen 105 = .ok (.aload_n 2, 1)) ∧ (decode cX11_seen 106 = .ok (.aload_n 0, 1)) ∧ (decode cX11_seen 107 = .ok (.getfield 26, 3)) ∧ (decode cX11_seen 110 = .ok (.aload_n 2, 1)) := by decide +kernel
theorem dX11_seen_91 : decode cX11_seen 91 = .ok (.invokevirtual 145, 3) := dGR_17_c_553.1
theorem dX11_seen_94 : decode cX11_seen 94 = .ok (.ireturn, 1) := dGR_17_c_553.2.1
theorem dX11_seen_95 : decode cX11_seen 95 = .ok (.aload_n 0, 1) := dGR_17_c_553.2.2.1
theorem dX11_seen_96 : decode cX11_seen 96 = .ok (.aload_n 2, 1) := dGR_17_c_553.2.2.2.1
theorem dX11_seen_97 : decode cX11_seen 97 = .ok (.getfield 238, 3) := dGR_17_c_553.2.2.2.2.1
theorem dX11_seen_100 : decode cX11_seen 100 = .ok (.invokevirtual 145, 3) := dGR_17_c_553.2.2.2.2.2.1
theorem dX11_seen_103 : decode cX11_seen 103 = .ok (.ireturn, 1) := dGR_17_c_553.2.2.2.2.2.2.1
theorem dX11_seen_104 : decode cX11_seen 104 = .ok (.aload_n 0, 1) := dGR_17_c_553.2.2.2.2.2.2.2.1
theorem dX11_seen_105 : decode cX11_seen 105 = .ok (.aload_n 2, 1) := dGR_17_c_553.2.2.2.2.2.2.2.2.1
theorem dX11_seen_106 : decode cX11_seen 106 = .ok (.aload_n 0, 1) := dGR_17_c_553.2.2.2.2.2.2.2.2.2.1
theorem dX11_seen_107 : decode cX11_seen 107 = .ok (.getfield 26, 3) := dGR_17_c_553.2.2.2.2.2.2.2.2.2.2.1
theorem dX11_seen_110 : decode cX11_seen 110 = .ok (.aload_n 2, 1) := dGR_17_c_553.2.2.2.2.2.2.2.2.2.2.2
set_option maxRecDepth 100000 in
theorem dGR_17_c_554 : (decode cX11_seen 111 = .ok (.getfield 372, 3)) ∧ (decode cX11_seen 114 = .ok (.invokevirtual 164, 3)) ∧ (decode cX11_seen 117 = .ok (.invokevirtual 234, 3)) ∧ (decode cX11_seen 120 = .ok (.ifCond .eq 7, 3)) ∧ (decode cX11_seen 123 = .ok (.iconst 1, 1)) ∧ (decode cX11_seen 124 = .ok (.goto 4, 3)) ∧ (decode cX11_seen 127 = .ok (.iconst 0, 1)) ∧ (decode cX11_seen 128 = .ok (.invokevirtual 145, 3)) ∧ (decode cX11_seen 131 = .ok (.ireturn, 1)) := by decide +kernel
theorem dX11_seen_111 : decode cX11_seen 111 = .ok (.getfield 372, 3) := dGR_17_c_554.1
theorem dX11_seen_114 : decode cX11_seen 114 = .ok (.invokevirtual 164, 3) := dGR_17_c_554.2.1
theorem dX11_seen_117 : decode cX11_seen 117 = .ok (.invokevirtual 234, 3) := dGR_17_c_554.2.2.1
theorem dX11_seen_120 : decode cX11_seen 120 = .ok (.ifCond .eq 7, 3) := dGR_17_c_554.2.2.2.1
theorem dX11_seen_123 : decode cX11_seen 123 = .ok (.iconst 1, 1) := dGR_17_c_554.2.2.2.2.1
theorem dX11_seen_124 : decode cX11_seen 124 = .ok (.goto 4, 3) := dGR_17_c_554.2.2.2.2.2.1
theorem dX11_seen_127 : decode cX11_seen 127 = .ok (.iconst 0, 1) := dGR_17_c_554.2.2.2.2.2.2.1
theorem dX11_seen_128 : decode cX11_seen 128 = .ok (.invokevirtual 145, 3) := dGR_17_c_554.2.2.2.2.2.2.2.1
theorem dX11_seen_131 : decode cX11_seen 131 = .ok (.ireturn, 1) := dGR_17_c_554.2.2.2.2.2.2.2.2
set_option maxRecDepth 100000 in
theorem dGR_17_c_555 : (decode cX11_doomed 0 = .ok (.aload_n 0, 1)) ∧ (decode cX11_doomed 1 = .ok (.getfield 26, 3)) ∧ (decode cX11_doomed 4 = .ok (.getfield 367, 3)) ∧ (decode cX11_doomed 7 = .ok (.getfield 372, 3)) ∧ (decode cX11_doomed 10 = .ok (.iconst (-1), 1)) ∧ (decode cX11_doomed 11 = .ok (.if_icmp .ne 10, 3)) ∧ (decode cX11_doomed 14 = .ok (.aload_n 0, 1)) ∧ (decode cX11_doomed 15 = .ok (.bipush 6, 2)) ∧ (decode cX11_doomed 17 = .ok (.invokevirtual 110, 3)) ∧ (decode cX11_doomed 20 = .ok (.ireturn, 1)) ∧ (decode cX11_doomed 21 = .ok (.aload_n 0, 1)) ∧ (decode cX11_doomed 22 = .ok (.aload_n 0, 1)) := by decide +kernel
theorem dX11_doomed_0 : decode cX11_doomed 0 = .ok (.aload_n 0, 1) := dGR_17_c_555.1
theorem dX11_doomed_1 : decode cX11_doomed 1 = .ok (.getfield 26, 3) := dGR_17_c_555.2.1
theorem dX11_doomed_4 : decode cX11_doomed 4 = .ok (.getfield 367, 3) := dGR_17_c_555.2.2.1
theorem dX11_doomed_7 : decode cX11_doomed 7 = .ok (.getfield 372, 3) := dGR_17_c_555.2.2.2.1
theorem dX11_doomed_10 : decode cX11_doomed 10 = .ok (.iconst (-1), 1) := dGR_17_c_555.2.2.2.2.1
theorem dX11_doomed_11 : decode cX11_doomed 11 = .ok (.if_icmp .ne 10, 3) := dGR_17_c_555.2.2.2.2.2.1
theorem dX11_doomed_14 : decode cX11_doomed 14 = .ok (.aload_n 0, 1) := dGR_17_c_555.2.2.2.2.2.2.1
theorem dX11_doomed_15 : decode cX11_doomed 15 = .ok (.bipush 6, 2) := dGR_17_c_555.2.2.2.2.2.2.2.1
theorem dX11_doomed_17 : decode cX11_doomed 17 = .ok (.invokevirtual 110, 3) := dGR_17_c_555.2.2.2.2.2.2.2.2.1
theorem dX11_doomed_20 : decode cX11_doomed 20 = .ok (.ireturn, 1) := dGR_17_c_555.2.2.2.2.2.2.2.2.2.1
theorem dX11_doomed_21 : decode cX11_doomed 21 = .ok (.aload_n 0, 1) := dGR_17_c_555.2.2.2.2.2.2.2.2.2.2.1
theorem dX11_doomed_22 : decode cX11_doomed 22 = .ok (.aload_n 0, 1) := dGR_17_c_555.2.2.2.2.2.2.2.2.2.2.2
set_option maxRecDepth 100000 in
theorem dGR_17_c_556 : (decode cX11_doomed 23 = .ok (.getfield 26, 3)) ∧ (decode cX11_doomed 26 = .ok (.invokevirtual 382, 3)) ∧ (decode cX11_doomed 29 = .ok (.ifCond .eq 7, 3)) ∧ (decode cX11_doomed 32 = .ok (.iconst 1, 1)) ∧ (decode cX11_doomed 33 = .ok (.goto 4, 3)) ∧ (decode cX11_doomed 36 = .ok (.iconst 0, 1)) ∧ (decode cX11_doomed 37 = .ok (.invokevirtual 145, 3)) ∧ (decode cX11_doomed 40 = .ok (.ireturn, 1)) := by decide +kernel
theorem dX11_doomed_23 : decode cX11_doomed 23 = .ok (.getfield 26, 3) := dGR_17_c_556.1
theorem dX11_doomed_26 : decode cX11_doomed 26 = .ok (.invokevirtual 382, 3) := dGR_17_c_556.2.1
theorem dX11_doomed_29 : decode cX11_doomed 29 = .ok (.ifCond .eq 7, 3) := dGR_17_c_556.2.2.1
theorem dX11_doomed_32 : decode cX11_doomed 32 = .ok (.iconst 1, 1) := dGR_17_c_556.2.2.2.1
theorem dX11_doomed_33 : decode cX11_doomed 33 = .ok (.goto 4, 3) := dGR_17_c_556.2.2.2.2.1
theorem dX11_doomed_36 : decode cX11_doomed 36 = .ok (.iconst 0, 1) := dGR_17_c_556.2.2.2.2.2.1
theorem dX11_doomed_37 : decode cX11_doomed 37 = .ok (.invokevirtual 145, 3) := dGR_17_c_556.2.2.2.2.2.2.1
theorem dX11_doomed_40 : decode cX11_doomed 40 = .ok (.ireturn, 1) := dGR_17_c_556.2.2.2.2.2.2.2
abbrev f_c_X11_doomed : List (Nat × Int) := [(62, 0)]
set_option maxHeartbeats 4000000 in
set_option maxRecDepth 100000 in
theorem c_X11_doomed (G : KG) (l : Launch) (M : Mem) (c0 : Int) (hI_M : Inv false M) (hk_c0 : kd c0 = 62) : KC false G l yX11_doomed cX11_doomed 1 (some .int) (5, 124) [vR G c0] M (fun A => kQi false G A (fun (r : Int) (N : Mem) => Inv false N ∧ Fr f_c_X11_doomed M N ∧ (r ≥ -1 ∧ r ≤ 1))) := by
  refine kx_met (lo := [some (vR G c0)]) (by decide) (Nat.le_of_ble_eq_true rfl) rfl ?_
  intro X F hQ
  have hF_M : Fr f_c_X11_doomed M M := Fr.rf _ _
  refine kx_aload_n 1 F 0 dX11_doomed_0 rfl rfl rfl ?_
  refine kx_getr 4 F fl_X11_26 hk_c0 rfl rfl (j := 5) rfl dX11_doomed_1 (v := (M c0 5)) rfl rfl ?_
  have hk_1 : kd (M c0 5) = 12 := Inv.r hI_M hk_c0 rfl 5 rfl rfl
  refine kx_getr 7 F fl_X11_367 hk_1 rfl rfl (j := 6) rfl dX11_doomed_4 (v := (M (M c0 5) 6)) rfl rfl ?_
  have hk_2 : kd (M (M c0 5) 6) = 8 := Inv.r hI_M hk_1 rfl 6 rfl rfl
  refine kx_geti 10 F fl_X11_372 hk_2 rfl rfl (j := 0) rfl dX11_doomed_7 (v := (M (M (M c0 5) 6) 0)) rfl rfl ?_
  have h_3 := Inv.g hI_M hk_2 rfl 0 (a := (-1)) (b := 1) rfl rfl
  refine kx_iconst 11 F dX11_doomed_10 rfl ?_
  refine kx_icmp_ne 14 F 21 dX11_doomed_11 (by decide) rfl (by omega) (by decide) (fun h_4 => ?_) (fun h_4 => ?_)
  · refine kx_aload_n 22 F 0 dX11_doomed_21 rfl rfl rfl ?_
    refine kx_aload_n 23 F 0 dX11_doomed_22 rfl rfl rfl ?_
    refine kx_getr 26 F fl_X11_26 hk_c0 rfl rfl (j := 5) rfl dX11_doomed_23 (v := (M c0 5)) rfl rfl ?_
    refine kx_Vi 29 (ci := 0) F (As := []) (st := [vR G c0]) vd_X11_382 (c_X5_isLost G l M (M c0 5) hI_M hk_1) hk_1 rfl rfl rfl ⟨by decide, by decide⟩ rfl rfl (Nat.le_of_ble_eq_true rfl) dX11_doomed_26 rfl ?_
    intro r_5 N_6 q_7
    obtain ⟨rfl, q_7c⟩ := q_7
    refine kx_if_eq 32 F 36 dX11_doomed_29 (by decide) rfl (by omega) (fun h_8 => ?_) (fun h_8 => ?_)
    · refine kx_iconst 37 F dX11_doomed_36 rfl ?_
      refine kx_Vi 40 (ci := 0) F (As := [vI 0]) (st := []) vd_X11_145 (c_X11_answer G l M c0 0 hI_M hk_c0 (by omega)) hk_c0 rfl rfl rfl ⟨by decide, by decide⟩ rfl rfl (Nat.le_of_ble_eq_true rfl) dX11_doomed_37 rfl ?_
      intro r_9 N_10 q_11
      obtain ⟨hI_N_10, hG_N_10, q_11c⟩ := q_11
      have hF_N_10 : Fr f_c_X11_doomed M N_10 := Fr.c hF_M hG_N_10 rfl
      exact kx_iret F hQ ⟨hI_N_10, hF_N_10, (by omega)⟩ dX11_doomed_40
    · refine kx_iconst 33 F dX11_doomed_32 rfl ?_
      refine kx_goto 37 F dX11_doomed_33 (by decide) ?_
      refine kx_Vi 40 (ci := 0) F (As := [vI 1]) (st := []) vd_X11_145 (c_X11_answer G l M c0 1 hI_M hk_c0 (by omega)) hk_c0 rfl rfl rfl ⟨by decide, by decide⟩ rfl rfl (Nat.le_of_ble_eq_true rfl) dX11_doomed_37 rfl ?_
      intro r_12 N_13 q_14
      obtain ⟨hI_N_13, hG_N_13, q_14c⟩ := q_14
      have hF_N_13 : Fr f_c_X11_doomed M N_13 := Fr.c hF_M hG_N_13 rfl
      exact kx_iret F hQ ⟨hI_N_13, hF_N_13, (by omega)⟩ dX11_doomed_40
  · refine kx_aload_n 15 F 0 dX11_doomed_14 rfl rfl rfl ?_
    refine kx_bipush 17 F dX11_doomed_15 (by decide) rfl ?_
    refine kx_Vi 20 (ci := 0) F (As := [vI 6]) (st := []) vd_X11_110 (c_X11_refuse G l M c0 6 hI_M hk_c0 (by omega)) hk_c0 rfl rfl rfl ⟨by decide, by decide⟩ rfl rfl (Nat.le_of_ble_eq_true rfl) dX11_doomed_17 rfl ?_
    intro r_15 N_16 q_17
    obtain ⟨hI_N_16, hG_N_16, q_17c⟩ := q_17
    have hF_N_16 : Fr f_c_X11_doomed M N_16 := Fr.c hF_M hG_N_16 rfl
    subst q_17c
    exact kx_iret F hQ ⟨hI_N_16, hF_N_16, (by omega)⟩ dX11_doomed_20
set_option maxRecDepth 100000 in
theorem dGR_17_c_557 : (decode cX11_mark 0 = .ok (.aload_n 0, 1)) ∧ (decode cX11_mark 1 = .ok (.getfield 385, 3)) ∧ (decode cX11_mark 4 = .ok (.iconst 3, 1)) ∧ (decode cX11_mark 5 = .ok (.if_icmp .lt 9, 3)) ∧ (decode cX11_mark 8 = .ok (.aload_n 0, 1)) ∧ (decode cX11_mark 9 = .ok (.iconst 4, 1)) ∧ (decode cX11_mark 10 = .ok (.invokevirtual 110, 3)) ∧ (decode cX11_mark 13 = .ok (.ireturn, 1)) ∧ (decode cX11_mark 14 = .ok (.aload_n 0, 1)) ∧ (decode cX11_mark 15 = .ok (.getfield 30, 3)) ∧ (decode cX11_mark 18 = .ok (.aload_n 0, 1)) ∧ (decode cX11_mark 19 = .ok (.getfield 385, 3)) := by decide +kernel
theorem dX11_mark_0 : decode cX11_mark 0 = .ok (.aload_n 0, 1) := dGR_17_c_557.1
theorem dX11_mark_1 : decode cX11_mark 1 = .ok (.getfield 385, 3) := dGR_17_c_557.2.1
theorem dX11_mark_4 : decode cX11_mark 4 = .ok (.iconst 3, 1) := dGR_17_c_557.2.2.1
theorem dX11_mark_5 : decode cX11_mark 5 = .ok (.if_icmp .lt 9, 3) := dGR_17_c_557.2.2.2.1
theorem dX11_mark_8 : decode cX11_mark 8 = .ok (.aload_n 0, 1) := dGR_17_c_557.2.2.2.2.1
theorem dX11_mark_9 : decode cX11_mark 9 = .ok (.iconst 4, 1) := dGR_17_c_557.2.2.2.2.2.1
theorem dX11_mark_10 : decode cX11_mark 10 = .ok (.invokevirtual 110, 3) := dGR_17_c_557.2.2.2.2.2.2.1
theorem dX11_mark_13 : decode cX11_mark 13 = .ok (.ireturn, 1) := dGR_17_c_557.2.2.2.2.2.2.2.1
theorem dX11_mark_14 : decode cX11_mark 14 = .ok (.aload_n 0, 1) := dGR_17_c_557.2.2.2.2.2.2.2.2.1
theorem dX11_mark_15 : decode cX11_mark 15 = .ok (.getfield 30, 3) := dGR_17_c_557.2.2.2.2.2.2.2.2.2.1
theorem dX11_mark_18 : decode cX11_mark 18 = .ok (.aload_n 0, 1) := dGR_17_c_557.2.2.2.2.2.2.2.2.2.2.1
theorem dX11_mark_19 : decode cX11_mark 19 = .ok (.getfield 385, 3) := dGR_17_c_557.2.2.2.2.2.2.2.2.2.2.2
set_option maxRecDepth 100000 in
theorem dGR_17_c_558 : (decode cX11_mark 22 = .ok (.aaload, 1)) ∧ (decode cX11_mark 23 = .ok (.aload_n 0, 1)) ∧ (decode cX11_mark 24 = .ok (.getfield 26, 3)) ∧ (decode cX11_mark 27 = .ok (.invokevirtual 388, 3)) ∧ (decode cX11_mark 30 = .ok (.aload_n 0, 1)) ∧ (decode cX11_mark 31 = .ok (.dup, 1)) ∧ (decode cX11_mark 32 = .ok (.getfield 385, 3)) ∧ (decode cX11_mark 35 = .ok (.iconst 1, 1)) ∧ (decode cX11_mark 36 = .ok (.iadd, 1)) ∧ (decode cX11_mark 37 = .ok (.putfield 385, 3)) ∧ (decode cX11_mark 40 = .ok (.aload_n 0, 1)) ∧ (decode cX11_mark 41 = .ok (.aload_n 0, 1)) := by decide +kernel
theorem dX11_mark_22 : decode cX11_mark 22 = .ok (.aaload, 1) := dGR_17_c_558.1
theorem dX11_mark_23 : decode cX11_mark 23 = .ok (.aload_n 0, 1) := dGR_17_c_558.2.1
theorem dX11_mark_24 : decode cX11_mark 24 = .ok (.getfield 26, 3) := dGR_17_c_558.2.2.1
theorem dX11_mark_27 : decode cX11_mark 27 = .ok (.invokevirtual 388, 3) := dGR_17_c_558.2.2.2.1
theorem dX11_mark_30 : decode cX11_mark 30 = .ok (.aload_n 0, 1) := dGR_17_c_558.2.2.2.2.1
theorem dX11_mark_31 : decode cX11_mark 31 = .ok (.dup, 1) := dGR_17_c_558.2.2.2.2.2.1
theorem dX11_mark_32 : decode cX11_mark 32 = .ok (.getfield 385, 3) := dGR_17_c_558.2.2.2.2.2.2.1
theorem dX11_mark_35 : decode cX11_mark 35 = .ok (.iconst 1, 1) := dGR_17_c_558.2.2.2.2.2.2.2.1
theorem dX11_mark_36 : decode cX11_mark 36 = .ok (.iadd, 1) := dGR_17_c_558.2.2.2.2.2.2.2.2.1
theorem dX11_mark_37 : decode cX11_mark 37 = .ok (.putfield 385, 3) := dGR_17_c_558.2.2.2.2.2.2.2.2.2.1
theorem dX11_mark_40 : decode cX11_mark 40 = .ok (.aload_n 0, 1) := dGR_17_c_558.2.2.2.2.2.2.2.2.2.2.1
theorem dX11_mark_41 : decode cX11_mark 41 = .ok (.aload_n 0, 1) := dGR_17_c_558.2.2.2.2.2.2.2.2.2.2.2
set_option maxRecDepth 100000 in
theorem dGR_17_c_559 : (decode cX11_mark 42 = .ok (.getfield 385, 3)) ∧ (decode cX11_mark 45 = .ok (.invokevirtual 145, 3)) ∧ (decode cX11_mark 48 = .ok (.ireturn, 1)) := by decide +kernel
theorem dX11_mark_42 : decode cX11_mark 42 = .ok (.getfield 385, 3) := dGR_17_c_559.1
theorem dX11_mark_45 : decode cX11_mark 45 = .ok (.invokevirtual 145, 3) := dGR_17_c_559.2.1
theorem dX11_mark_48 : decode cX11_mark 48 = .ok (.ireturn, 1) := dGR_17_c_559.2.2
set_option maxRecDepth 100000 in
theorem dGR_17_c_560 : (decode cX11_undo 0 = .ok (.aload_n 0, 1)) ∧ (decode cX11_undo 1 = .ok (.getfield 385, 3)) ∧ (decode cX11_undo 4 = .ok (.ifCond .gt 10, 3)) ∧ (decode cX11_undo 7 = .ok (.aload_n 0, 1)) ∧ (decode cX11_undo 8 = .ok (.bipush 6, 2)) ∧ (decode cX11_undo 10 = .ok (.invokevirtual 110, 3)) ∧ (decode cX11_undo 13 = .ok (.ireturn, 1)) ∧ (decode cX11_undo 14 = .ok (.aload_n 0, 1)) ∧ (decode cX11_undo 15 = .ok (.dup, 1)) ∧ (decode cX11_undo 16 = .ok (.getfield 385, 3)) ∧ (decode cX11_undo 19 = .ok (.iconst 1, 1)) ∧ (decode cX11_undo 20 = .ok (.isub, 1)) := by decide +kernel
theorem dX11_undo_0 : decode cX11_undo 0 = .ok (.aload_n 0, 1) := dGR_17_c_560.1
theorem dX11_undo_1 : decode cX11_undo 1 = .ok (.getfield 385, 3) := dGR_17_c_560.2.1
theorem dX11_undo_4 : decode cX11_undo 4 = .ok (.ifCond .gt 10, 3) := dGR_17_c_560.2.2.1
theorem dX11_undo_7 : decode cX11_undo 7 = .ok (.aload_n 0, 1) := dGR_17_c_560.2.2.2.1
theorem dX11_undo_8 : decode cX11_undo 8 = .ok (.bipush 6, 2) := dGR_17_c_560.2.2.2.2.1
theorem dX11_undo_10 : decode cX11_undo 10 = .ok (.invokevirtual 110, 3) := dGR_17_c_560.2.2.2.2.2.1
theorem dX11_undo_13 : decode cX11_undo 13 = .ok (.ireturn, 1) := dGR_17_c_560.2.2.2.2.2.2.1
theorem dX11_undo_14 : decode cX11_undo 14 = .ok (.aload_n 0, 1) := dGR_17_c_560.2.2.2.2.2.2.2.1
theorem dX11_undo_15 : decode cX11_undo 15 = .ok (.dup, 1) := dGR_17_c_560.2.2.2.2.2.2.2.2.1
theorem dX11_undo_16 : decode cX11_undo 16 = .ok (.getfield 385, 3) := dGR_17_c_560.2.2.2.2.2.2.2.2.2.1
theorem dX11_undo_19 : decode cX11_undo 19 = .ok (.iconst 1, 1) := dGR_17_c_560.2.2.2.2.2.2.2.2.2.2.1
theorem dX11_undo_20 : decode cX11_undo 20 = .ok (.isub, 1) := dGR_17_c_560.2.2.2.2.2.2.2.2.2.2.2
set_option maxRecDepth 100000 in
theorem dGR_17_c_561 : (decode cX11_undo 21 = .ok (.putfield 385, 3)) ∧ (decode cX11_undo 24 = .ok (.aload_n 0, 1)) ∧ (decode cX11_undo 25 = .ok (.getfield 26, 3)) ∧ (decode cX11_undo 28 = .ok (.astore_n 1, 1)) ∧ (decode cX11_undo 29 = .ok (.aload_n 0, 1)) ∧ (decode cX11_undo 30 = .ok (.aload_n 0, 1)) ∧ (decode cX11_undo 31 = .ok (.getfield 30, 3)) ∧ (decode cX11_undo 34 = .ok (.aload_n 0, 1)) ∧ (decode cX11_undo 35 = .ok (.getfield 385, 3)) ∧ (decode cX11_undo 38 = .ok (.aaload, 1)) ∧ (decode cX11_undo 39 = .ok (.putfield 26, 3)) ∧ (decode cX11_undo 42 = .ok (.aload_n 0, 1)) := by decide +kernel
theorem dX11_undo_21 : decode cX11_undo 21 = .ok (.putfield 385, 3) := dGR_17_c_561.1
theorem dX11_undo_24 : decode cX11_undo 24 = .ok (.aload_n 0, 1) := dGR_17_c_561.2.1
theorem dX11_undo_25 : decode cX11_undo 25 = .ok (.getfield 26, 3) := dGR_17_c_561.2.2.1
theorem dX11_undo_28 : decode cX11_undo 28 = .ok (.astore_n 1, 1) := dGR_17_c_561.2.2.2.1
theorem dX11_undo_29 : decode cX11_undo 29 = .ok (.aload_n 0, 1) := dGR_17_c_561.2.2.2.2.1
theorem dX11_undo_30 : decode cX11_undo 30 = .ok (.aload_n 0, 1) := dGR_17_c_561.2.2.2.2.2.1
theorem dX11_undo_31 : decode cX11_undo 31 = .ok (.getfield 30, 3) := dGR_17_c_561.2.2.2.2.2.2.1
theorem dX11_undo_34 : decode cX11_undo 34 = .ok (.aload_n 0, 1) := dGR_17_c_561.2.2.2.2.2.2.2.1
theorem dX11_undo_35 : decode cX11_undo 35 = .ok (.getfield 385, 3) := dGR_17_c_561.2.2.2.2.2.2.2.2.1
theorem dX11_undo_38 : decode cX11_undo 38 = .ok (.aaload, 1) := dGR_17_c_561.2.2.2.2.2.2.2.2.2.1
theorem dX11_undo_39 : decode cX11_undo 39 = .ok (.putfield 26, 3) := dGR_17_c_561.2.2.2.2.2.2.2.2.2.2.1
theorem dX11_undo_42 : decode cX11_undo 42 = .ok (.aload_n 0, 1) := dGR_17_c_561.2.2.2.2.2.2.2.2.2.2.2
set_option maxRecDepth 100000 in
theorem dGR_17_c_562 : (decode cX11_undo 43 = .ok (.getfield 30, 3)) ∧ (decode cX11_undo 46 = .ok (.aload_n 0, 1)) ∧ (decode cX11_undo 47 = .ok (.getfield 385, 3)) ∧ (decode cX11_undo 50 = .ok (.aload_n 1, 1)) ∧ (decode cX11_undo 51 = .ok (.aastore, 1)) ∧ (decode cX11_undo 52 = .ok (.aload_n 0, 1)) ∧ (decode cX11_undo 53 = .ok (.invokevirtual 139, 3)) ∧ (decode cX11_undo 56 = .ok (.aload_n 0, 1)) ∧ (decode cX11_undo 57 = .ok (.aload_n 0, 1)) ∧ (decode cX11_undo 58 = .ok (.getfield 385, 3)) ∧ (decode cX11_undo 61 = .ok (.invokevirtual 145, 3)) ∧ (decode cX11_undo 64 = .ok (.ireturn, 1)) := by decide +kernel
theorem dX11_undo_43 : decode cX11_undo 43 = .ok (.getfield 30, 3) := dGR_17_c_562.1
theorem dX11_undo_46 : decode cX11_undo 46 = .ok (.aload_n 0, 1) := dGR_17_c_562.2.1
theorem dX11_undo_47 : decode cX11_undo 47 = .ok (.getfield 385, 3) := dGR_17_c_562.2.2.1
theorem dX11_undo_50 : decode cX11_undo 50 = .ok (.aload_n 1, 1) := dGR_17_c_562.2.2.2.1
theorem dX11_undo_51 : decode cX11_undo 51 = .ok (.aastore, 1) := dGR_17_c_562.2.2.2.2.1
theorem dX11_undo_52 : decode cX11_undo 52 = .ok (.aload_n 0, 1) := dGR_17_c_562.2.2.2.2.2.1
theorem dX11_undo_53 : decode cX11_undo 53 = .ok (.invokevirtual 139, 3) := dGR_17_c_562.2.2.2.2.2.2.1
theorem dX11_undo_56 : decode cX11_undo 56 = .ok (.aload_n 0, 1) := dGR_17_c_562.2.2.2.2.2.2.2.1
theorem dX11_undo_57 : decode cX11_undo 57 = .ok (.aload_n 0, 1) := dGR_17_c_562.2.2.2.2.2.2.2.2.1
theorem dX11_undo_58 : decode cX11_undo 58 = .ok (.getfield 385, 3) := dGR_17_c_562.2.2.2.2.2.2.2.2.2.1
theorem dX11_undo_61 : decode cX11_undo 61 = .ok (.invokevirtual 145, 3) := dGR_17_c_562.2.2.2.2.2.2.2.2.2.2.1
theorem dX11_undo_64 : decode cX11_undo 64 = .ok (.ireturn, 1) := dGR_17_c_562.2.2.2.2.2.2.2.2.2.2.2
