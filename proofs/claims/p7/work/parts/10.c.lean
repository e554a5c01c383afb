set_option maxRecDepth 100000 in
theorem dGR_10_c_1 : (decode cJ7_fill_53178 0 = .ok (.iconst 0, 1)) ∧ (decode cJ7_fill_53178 1 = .ok (.istore_n 2, 1)) ∧ (decode cJ7_fill_53178 2 = .ok (.aload_n 0, 1)) ∧ (decode cJ7_fill_53178 3 = .ok (.arraylength, 1)) ∧ (decode cJ7_fill_53178 4 = .ok (.istore_n 3, 1)) ∧ (decode cJ7_fill_53178 5 = .ok (.iload_n 2, 1)) ∧ (decode cJ7_fill_53178 6 = .ok (.iload_n 3, 1)) ∧ (decode cJ7_fill_53178 7 = .ok (.if_icmp .ge 13, 3)) ∧ (decode cJ7_fill_53178 10 = .ok (.aload_n 0, 1)) ∧ (decode cJ7_fill_53178 11 = .ok (.iload_n 2, 1)) ∧ (decode cJ7_fill_53178 12 = .ok (.iload_n 1, 1)) ∧ (decode cJ7_fill_53178 13 = .ok (.iastore, 1)) := by decide +kernel
theorem dJ7_fill_53178_0 : decode cJ7_fill_53178 0 = .ok (.iconst 0, 1) := dGR_10_c_1.1
theorem dJ7_fill_53178_1 : decode cJ7_fill_53178 1 = .ok (.istore_n 2, 1) := dGR_10_c_1.2.1
theorem dJ7_fill_53178_2 : decode cJ7_fill_53178 2 = .ok (.aload_n 0, 1) := dGR_10_c_1.2.2.1
theorem dJ7_fill_53178_3 : decode cJ7_fill_53178 3 = .ok (.arraylength, 1) := dGR_10_c_1.2.2.2.1
theorem dJ7_fill_53178_4 : decode cJ7_fill_53178 4 = .ok (.istore_n 3, 1) := dGR_10_c_1.2.2.2.2.1
theorem dJ7_fill_53178_5 : decode cJ7_fill_53178 5 = .ok (.iload_n 2, 1) := dGR_10_c_1.2.2.2.2.2.1
theorem dJ7_fill_53178_6 : decode cJ7_fill_53178 6 = .ok (.iload_n 3, 1) := dGR_10_c_1.2.2.2.2.2.2.1
theorem dJ7_fill_53178_7 : decode cJ7_fill_53178 7 = .ok (.if_icmp .ge 13, 3) := dGR_10_c_1.2.2.2.2.2.2.2.1
theorem dJ7_fill_53178_10 : decode cJ7_fill_53178 10 = .ok (.aload_n 0, 1) := dGR_10_c_1.2.2.2.2.2.2.2.2.1
theorem dJ7_fill_53178_11 : decode cJ7_fill_53178 11 = .ok (.iload_n 2, 1) := dGR_10_c_1.2.2.2.2.2.2.2.2.2.1
theorem dJ7_fill_53178_12 : decode cJ7_fill_53178 12 = .ok (.iload_n 1, 1) := dGR_10_c_1.2.2.2.2.2.2.2.2.2.2.1
theorem dJ7_fill_53178_13 : decode cJ7_fill_53178 13 = .ok (.iastore, 1) := dGR_10_c_1.2.2.2.2.2.2.2.2.2.2.2
set_option maxRecDepth 100000 in
theorem dGR_10_c_2 : (decode cJ7_fill_53178 14 = .ok (.iinc 2 1, 3)) ∧ (decode cJ7_fill_53178 17 = .ok (.goto (-12), 3)) ∧ (decode cJ7_fill_53178 20 = .ok (.return_, 1)) := by decide +kernel
theorem dJ7_fill_53178_14 : decode cJ7_fill_53178 14 = .ok (.iinc 2 1, 3) := dGR_10_c_2.1
theorem dJ7_fill_53178_17 : decode cJ7_fill_53178 17 = .ok (.goto (-12), 3) := dGR_10_c_2.2.1
theorem dJ7_fill_53178_20 : decode cJ7_fill_53178 20 = .ok (.return_, 1) := dGR_10_c_2.2.2
set_option maxRecDepth 100000 in
theorem dGR_10_c_3 : (decode cX0_renew 0 = .ok (.aload_n 0, 1)) ∧ (decode cX0_renew 1 = .ok (.getfield 24, 3)) ∧ (decode cX0_renew 4 = .ok (.iconst 0, 1)) ∧ (decode cX0_renew 5 = .ok (.invokestatic 56, 3)) ∧ (decode cX0_renew 8 = .ok (.aload_n 0, 1)) ∧ (decode cX0_renew 9 = .ok (.getfield 27, 3)) ∧ (decode cX0_renew 12 = .ok (.iconst 0, 1)) ∧ (decode cX0_renew 13 = .ok (.invokestatic 56, 3)) ∧ (decode cX0_renew 16 = .ok (.iconst 0, 1)) ∧ (decode cX0_renew 17 = .ok (.istore_n 1, 1)) ∧ (decode cX0_renew 18 = .ok (.iload_n 1, 1)) ∧ (decode cX0_renew 19 = .ok (.aload_n 0, 1)) := by decide +kernel
theorem dX0_renew_0 : decode cX0_renew 0 = .ok (.aload_n 0, 1) := dGR_10_c_3.1
theorem dX0_renew_1 : decode cX0_renew 1 = .ok (.getfield 24, 3) := dGR_10_c_3.2.1
theorem dX0_renew_4 : decode cX0_renew 4 = .ok (.iconst 0, 1) := dGR_10_c_3.2.2.1
theorem dX0_renew_5 : decode cX0_renew 5 = .ok (.invokestatic 56, 3) := dGR_10_c_3.2.2.2.1
theorem dX0_renew_8 : decode cX0_renew 8 = .ok (.aload_n 0, 1) := dGR_10_c_3.2.2.2.2.1
theorem dX0_renew_9 : decode cX0_renew 9 = .ok (.getfield 27, 3) := dGR_10_c_3.2.2.2.2.2.1
theorem dX0_renew_12 : decode cX0_renew 12 = .ok (.iconst 0, 1) := dGR_10_c_3.2.2.2.2.2.2.1
theorem dX0_renew_13 : decode cX0_renew 13 = .ok (.invokestatic 56, 3) := dGR_10_c_3.2.2.2.2.2.2.2.1
theorem dX0_renew_16 : decode cX0_renew 16 = .ok (.iconst 0, 1) := dGR_10_c_3.2.2.2.2.2.2.2.2.1
theorem dX0_renew_17 : decode cX0_renew 17 = .ok (.istore_n 1, 1) := dGR_10_c_3.2.2.2.2.2.2.2.2.2.1
theorem dX0_renew_18 : decode cX0_renew 18 = .ok (.iload_n 1, 1) := dGR_10_c_3.2.2.2.2.2.2.2.2.2.2.1
theorem dX0_renew_19 : decode cX0_renew 19 = .ok (.aload_n 0, 1) := dGR_10_c_3.2.2.2.2.2.2.2.2.2.2.2
set_option maxRecDepth 100000 in
theorem dGR_10_c_4 : (decode cX0_renew 20 = .ok (.getfield 46, 3)) ∧ (decode cX0_renew 23 = .ok (.if_icmp .ge 14, 3)) ∧ (decode cX0_renew 37 = .ok (.return_, 1)) := by decide +kernel
theorem dX0_renew_20 : decode cX0_renew 20 = .ok (.getfield 46, 3) := dGR_10_c_4.1
theorem dX0_renew_23 : decode cX0_renew 23 = .ok (.if_icmp .ge 14, 3) := dGR_10_c_4.2.1
theorem dX0_renew_37 : decode cX0_renew 37 = .ok (.return_, 1) := dGR_10_c_4.2.2
set_option maxRecDepth 100000 in
theorem dGR_10_c_5 : (decode cX0_clear 0 = .ok (.aload_n 0, 1)) ∧ (decode cX0_clear 1 = .ok (.iload_n 1, 1)) ∧ (decode cX0_clear 2 = .ok (.putfield 30, 3)) ∧ (decode cX0_clear 5 = .ok (.aload_n 0, 1)) ∧ (decode cX0_clear 6 = .ok (.iload_n 2, 1)) ∧ (decode cX0_clear 7 = .ok (.putfield 34, 3)) ∧ (decode cX0_clear 10 = .ok (.aload_n 0, 1)) ∧ (decode cX0_clear 11 = .ok (.iload_n 3, 1)) ∧ (decode cX0_clear 12 = .ok (.putfield 37, 3)) ∧ (decode cX0_clear 15 = .ok (.aload_n 0, 1)) ∧ (decode cX0_clear 16 = .ok (.iconst 0, 1)) ∧ (decode cX0_clear 17 = .ok (.putfield 40, 3)) := by decide +kernel
theorem dX0_clear_0 : decode cX0_clear 0 = .ok (.aload_n 0, 1) := dGR_10_c_5.1
theorem dX0_clear_1 : decode cX0_clear 1 = .ok (.iload_n 1, 1) := dGR_10_c_5.2.1
theorem dX0_clear_2 : decode cX0_clear 2 = .ok (.putfield 30, 3) := dGR_10_c_5.2.2.1
theorem dX0_clear_5 : decode cX0_clear 5 = .ok (.aload_n 0, 1) := dGR_10_c_5.2.2.2.1
theorem dX0_clear_6 : decode cX0_clear 6 = .ok (.iload_n 2, 1) := dGR_10_c_5.2.2.2.2.1
theorem dX0_clear_7 : decode cX0_clear 7 = .ok (.putfield 34, 3) := dGR_10_c_5.2.2.2.2.2.1
theorem dX0_clear_10 : decode cX0_clear 10 = .ok (.aload_n 0, 1) := dGR_10_c_5.2.2.2.2.2.2.1
theorem dX0_clear_11 : decode cX0_clear 11 = .ok (.iload_n 3, 1) := dGR_10_c_5.2.2.2.2.2.2.2.1
theorem dX0_clear_12 : decode cX0_clear 12 = .ok (.putfield 37, 3) := dGR_10_c_5.2.2.2.2.2.2.2.2.1
theorem dX0_clear_15 : decode cX0_clear 15 = .ok (.aload_n 0, 1) := dGR_10_c_5.2.2.2.2.2.2.2.2.2.1
theorem dX0_clear_16 : decode cX0_clear 16 = .ok (.iconst 0, 1) := dGR_10_c_5.2.2.2.2.2.2.2.2.2.2.1
theorem dX0_clear_17 : decode cX0_clear 17 = .ok (.putfield 40, 3) := dGR_10_c_5.2.2.2.2.2.2.2.2.2.2.2
set_option maxRecDepth 100000 in
theorem dGR_10_c_6 : (decode cX0_clear 20 = .ok (.aload_n 0, 1)) ∧ (decode cX0_clear 21 = .ok (.iconst 0, 1)) ∧ (decode cX0_clear 22 = .ok (.putfield 43, 3)) ∧ (decode cX0_clear 25 = .ok (.aload_n 0, 1)) ∧ (decode cX0_clear 26 = .ok (.iconst 0, 1)) ∧ (decode cX0_clear 27 = .ok (.putfield 46, 3)) ∧ (decode cX0_clear 30 = .ok (.aload_n 0, 1)) ∧ (decode cX0_clear 31 = .ok (.invokevirtual 49, 3)) ∧ (decode cX0_clear 34 = .ok (.return_, 1)) := by decide +kernel
theorem dX0_clear_20 : decode cX0_clear 20 = .ok (.aload_n 0, 1) := dGR_10_c_6.1
theorem dX0_clear_21 : decode cX0_clear 21 = .ok (.iconst 0, 1) := dGR_10_c_6.2.1
theorem dX0_clear_22 : decode cX0_clear 22 = .ok (.putfield 43, 3) := dGR_10_c_6.2.2.1
theorem dX0_clear_25 : decode cX0_clear 25 = .ok (.aload_n 0, 1) := dGR_10_c_6.2.2.2.1
theorem dX0_clear_26 : decode cX0_clear 26 = .ok (.iconst 0, 1) := dGR_10_c_6.2.2.2.2.1
theorem dX0_clear_27 : decode cX0_clear 27 = .ok (.putfield 46, 3) := dGR_10_c_6.2.2.2.2.2.1
theorem dX0_clear_30 : decode cX0_clear 30 = .ok (.aload_n 0, 1) := dGR_10_c_6.2.2.2.2.2.2.1
theorem dX0_clear_31 : decode cX0_clear 31 = .ok (.invokevirtual 49, 3) := dGR_10_c_6.2.2.2.2.2.2.2.1
theorem dX0_clear_34 : decode cX0_clear 34 = .ok (.return_, 1) := dGR_10_c_6.2.2.2.2.2.2.2.2
set_option maxRecDepth 100000 in
theorem dGR_10_c_7 : (decode cX0_takeAll 0 = .ok (.aload_n 0, 1)) ∧ (decode cX0_takeAll 1 = .ok (.iconst 0, 1)) ∧ (decode cX0_takeAll 2 = .ok (.iconst 1, 1)) ∧ (decode cX0_takeAll 3 = .ok (.iconst 1, 1)) ∧ (decode cX0_takeAll 4 = .ok (.invokevirtual 52, 3)) ∧ (decode cX0_takeAll 7 = .ok (.aload_n 0, 1)) ∧ (decode cX0_takeAll 8 = .ok (.iconst 1, 1)) ∧ (decode cX0_takeAll 9 = .ok (.putfield 40, 3)) ∧ (decode cX0_takeAll 12 = .ok (.aload_n 0, 1)) ∧ (decode cX0_takeAll 13 = .ok (.iconst 1, 1)) ∧ (decode cX0_takeAll 14 = .ok (.putfield 43, 3)) ∧ (decode cX0_takeAll 17 = .ok (.aload_n 0, 1)) := by decide +kernel
theorem dX0_takeAll_0 : decode cX0_takeAll 0 = .ok (.aload_n 0, 1) := dGR_10_c_7.1
theorem dX0_takeAll_1 : decode cX0_takeAll 1 = .ok (.iconst 0, 1) := dGR_10_c_7.2.1
theorem dX0_takeAll_2 : decode cX0_takeAll 2 = .ok (.iconst 1, 1) := dGR_10_c_7.2.2.1
theorem dX0_takeAll_3 : decode cX0_takeAll 3 = .ok (.iconst 1, 1) := dGR_10_c_7.2.2.2.1
theorem dX0_takeAll_4 : decode cX0_takeAll 4 = .ok (.invokevirtual 52, 3) := dGR_10_c_7.2.2.2.2.1
theorem dX0_takeAll_7 : decode cX0_takeAll 7 = .ok (.aload_n 0, 1) := dGR_10_c_7.2.2.2.2.2.1
theorem dX0_takeAll_8 : decode cX0_takeAll 8 = .ok (.iconst 1, 1) := dGR_10_c_7.2.2.2.2.2.2.1
theorem dX0_takeAll_9 : decode cX0_takeAll 9 = .ok (.putfield 40, 3) := dGR_10_c_7.2.2.2.2.2.2.2.1
theorem dX0_takeAll_12 : decode cX0_takeAll 12 = .ok (.aload_n 0, 1) := dGR_10_c_7.2.2.2.2.2.2.2.2.1
theorem dX0_takeAll_13 : decode cX0_takeAll 13 = .ok (.iconst 1, 1) := dGR_10_c_7.2.2.2.2.2.2.2.2.2.1
theorem dX0_takeAll_14 : decode cX0_takeAll 14 = .ok (.putfield 43, 3) := dGR_10_c_7.2.2.2.2.2.2.2.2.2.2.1
theorem dX0_takeAll_17 : decode cX0_takeAll 17 = .ok (.aload_n 0, 1) := dGR_10_c_7.2.2.2.2.2.2.2.2.2.2.2
set_option maxRecDepth 100000 in
theorem dGR_10_c_8 : (decode cX0_takeAll 18 = .ok (.getfield 24, 3)) ∧ (decode cX0_takeAll 21 = .ok (.iconst 1, 1)) ∧ (decode cX0_takeAll 22 = .ok (.invokestatic 56, 3)) ∧ (decode cX0_takeAll 25 = .ok (.iconst 0, 1)) ∧ (decode cX0_takeAll 26 = .ok (.istore_n 1, 1)) ∧ (decode cX0_takeAll 27 = .ok (.iload_n 1, 1)) ∧ (decode cX0_takeAll 28 = .ok (.bipush 6, 2)) ∧ (decode cX0_takeAll 30 = .ok (.if_icmp .ge 18, 3)) ∧ (decode cX0_takeAll 33 = .ok (.aload_n 0, 1)) ∧ (decode cX0_takeAll 34 = .ok (.getfield 27, 3)) ∧ (decode cX0_takeAll 37 = .ok (.iload_n 1, 1)) ∧ (decode cX0_takeAll 38 = .ok (.iconst 3, 1)) := by decide +kernel
theorem dX0_takeAll_18 : decode cX0_takeAll 18 = .ok (.getfield 24, 3) := dGR_10_c_8.1
theorem dX0_takeAll_21 : decode cX0_takeAll 21 = .ok (.iconst 1, 1) := dGR_10_c_8.2.1
theorem dX0_takeAll_22 : decode cX0_takeAll 22 = .ok (.invokestatic 56, 3) := dGR_10_c_8.2.2.1
theorem dX0_takeAll_25 : decode cX0_takeAll 25 = .ok (.iconst 0, 1) := dGR_10_c_8.2.2.2.1
theorem dX0_takeAll_26 : decode cX0_takeAll 26 = .ok (.istore_n 1, 1) := dGR_10_c_8.2.2.2.2.1
theorem dX0_takeAll_27 : decode cX0_takeAll 27 = .ok (.iload_n 1, 1) := dGR_10_c_8.2.2.2.2.2.1
theorem dX0_takeAll_28 : decode cX0_takeAll 28 = .ok (.bipush 6, 2) := dGR_10_c_8.2.2.2.2.2.2.1
theorem dX0_takeAll_30 : decode cX0_takeAll 30 = .ok (.if_icmp .ge 18, 3) := dGR_10_c_8.2.2.2.2.2.2.2.1
theorem dX0_takeAll_33 : decode cX0_takeAll 33 = .ok (.aload_n 0, 1) := dGR_10_c_8.2.2.2.2.2.2.2.2.1
theorem dX0_takeAll_34 : decode cX0_takeAll 34 = .ok (.getfield 27, 3) := dGR_10_c_8.2.2.2.2.2.2.2.2.2.1
theorem dX0_takeAll_37 : decode cX0_takeAll 37 = .ok (.iload_n 1, 1) := dGR_10_c_8.2.2.2.2.2.2.2.2.2.2.1
theorem dX0_takeAll_38 : decode cX0_takeAll 38 = .ok (.iconst 3, 1) := dGR_10_c_8.2.2.2.2.2.2.2.2.2.2.2
set_option maxRecDepth 100000 in
theorem dGR_10_c_9 : (decode cX0_takeAll 39 = .ok (.imul, 1)) ∧ (decode cX0_takeAll 40 = .ok (.iconst 1, 1)) ∧ (decode cX0_takeAll 41 = .ok (.iastore, 1)) ∧ (decode cX0_takeAll 42 = .ok (.iinc 1 1, 3)) ∧ (decode cX0_takeAll 45 = .ok (.goto (-18), 3)) ∧ (decode cX0_takeAll 48 = .ok (.return_, 1)) := by decide +kernel
theorem dX0_takeAll_39 : decode cX0_takeAll 39 = .ok (.imul, 1) := dGR_10_c_9.1
theorem dX0_takeAll_40 : decode cX0_takeAll 40 = .ok (.iconst 1, 1) := dGR_10_c_9.2.1
theorem dX0_takeAll_41 : decode cX0_takeAll 41 = .ok (.iastore, 1) := dGR_10_c_9.2.2.1
theorem dX0_takeAll_42 : decode cX0_takeAll 42 = .ok (.iinc 1 1, 3) := dGR_10_c_9.2.2.2.1
theorem dX0_takeAll_45 : decode cX0_takeAll 45 = .ok (.goto (-18), 3) := dGR_10_c_9.2.2.2.2.1
theorem dX0_takeAll_48 : decode cX0_takeAll 48 = .ok (.return_, 1) := dGR_10_c_9.2.2.2.2.2
