set_option maxRecDepth 100000 in
theorem dGR_29_c_945 : (decode cX12_depth 0 = .ok (.aload_n 0, 1)) ∧ (decode cX12_depth 1 = .ok (.iload_n 1, 1)) ∧ (decode cX12_depth 2 = .ok (.iload_n 2, 1)) ∧ (decode cX12_depth 3 = .ok (.invokevirtual 358, 3)) ∧ (decode cX12_depth 6 = .ok (.ifCond .eq 12, 3)) ∧ (decode cX12_depth 9 = .ok (.iload_n 3, 1)) ∧ (decode cX12_depth 10 = .ok (.ifCond .lt 8, 3)) ∧ (decode cX12_depth 13 = .ok (.iload_n 3, 1)) ∧ (decode cX12_depth 14 = .ok (.iconst 2, 1)) ∧ (decode cX12_depth 15 = .ok (.if_icmp .le 9, 3)) ∧ (decode cX12_depth 18 = .ok (.aload_n 0, 1)) ∧ (decode cX12_depth 19 = .ok (.iconst 1, 1)) := by decide +kernel
theorem dX12_depth_0 : decode cX12_depth 0 = .ok (.aload_n 0, 1) := dGR_29_c_945.1
theorem dX12_depth_1 : decode cX12_depth 1 = .ok (.iload_n 1, 1) := dGR_29_c_945.2.1
theorem dX12_depth_2 : decode cX12_depth 2 = .ok (.iload_n 2, 1) := dGR_29_c_945.2.2.1
theorem dX12_depth_3 : decode cX12_depth 3 = .ok (.invokevirtual 358, 3) := dGR_29_c_945.2.2.2.1
theorem dX12_depth_6 : decode cX12_depth 6 = .ok (.ifCond .eq 12, 3) := dGR_29_c_945.2.2.2.2.1
theorem dX12_depth_9 : decode cX12_depth 9 = .ok (.iload_n 3, 1) := dGR_29_c_945.2.2.2.2.2.1
theorem dX12_depth_10 : decode cX12_depth 10 = .ok (.ifCond .lt 8, 3) := dGR_29_c_945.2.2.2.2.2.2.1
theorem dX12_depth_13 : decode cX12_depth 13 = .ok (.iload_n 3, 1) := dGR_29_c_945.2.2.2.2.2.2.2.1
theorem dX12_depth_14 : decode cX12_depth 14 = .ok (.iconst 2, 1) := dGR_29_c_945.2.2.2.2.2.2.2.2.1
theorem dX12_depth_15 : decode cX12_depth 15 = .ok (.if_icmp .le 9, 3) := dGR_29_c_945.2.2.2.2.2.2.2.2.2.1
theorem dX12_depth_18 : decode cX12_depth 18 = .ok (.aload_n 0, 1) := dGR_29_c_945.2.2.2.2.2.2.2.2.2.2.1
theorem dX12_depth_19 : decode cX12_depth 19 = .ok (.iconst 1, 1) := dGR_29_c_945.2.2.2.2.2.2.2.2.2.2.2
set_option maxRecDepth 100000 in
theorem dGR_29_c_946 : (decode cX12_depth 20 = .ok (.invokevirtual 123, 3)) ∧ (decode cX12_depth 23 = .ok (.ireturn, 1)) ∧ (decode cX12_depth 24 = .ok (.aload_n 0, 1)) ∧ (decode cX12_depth 25 = .ok (.iload_n 1, 1)) ∧ (decode cX12_depth 26 = .ok (.iload_n 2, 1)) ∧ (decode cX12_depth 27 = .ok (.invokevirtual 361, 3)) ∧ (decode cX12_depth 30 = .ok (.istore 4, 2)) ∧ (decode cX12_depth 32 = .ok (.iload 4, 2)) ∧ (decode cX12_depth 34 = .ok (.ifCond .le 10, 3)) ∧ (decode cX12_depth 37 = .ok (.aload_n 0, 1)) ∧ (decode cX12_depth 38 = .ok (.iload 4, 2)) ∧ (decode cX12_depth 40 = .ok (.invokevirtual 123, 3)) := by decide +kernel
theorem dX12_depth_20 : decode cX12_depth 20 = .ok (.invokevirtual 123, 3) := dGR_29_c_946.1
theorem dX12_depth_23 : decode cX12_depth 23 = .ok (.ireturn, 1) := dGR_29_c_946.2.1
theorem dX12_depth_24 : decode cX12_depth 24 = .ok (.aload_n 0, 1) := dGR_29_c_946.2.2.1
theorem dX12_depth_25 : decode cX12_depth 25 = .ok (.iload_n 1, 1) := dGR_29_c_946.2.2.2.1
theorem dX12_depth_26 : decode cX12_depth 26 = .ok (.iload_n 2, 1) := dGR_29_c_946.2.2.2.2.1
theorem dX12_depth_27 : decode cX12_depth 27 = .ok (.invokevirtual 361, 3) := dGR_29_c_946.2.2.2.2.2.1
theorem dX12_depth_30 : decode cX12_depth 30 = .ok (.istore 4, 2) := dGR_29_c_946.2.2.2.2.2.2.1
theorem dX12_depth_32 : decode cX12_depth 32 = .ok (.iload 4, 2) := dGR_29_c_946.2.2.2.2.2.2.2.1
theorem dX12_depth_34 : decode cX12_depth 34 = .ok (.ifCond .le 10, 3) := dGR_29_c_946.2.2.2.2.2.2.2.2.1
theorem dX12_depth_37 : decode cX12_depth 37 = .ok (.aload_n 0, 1) := dGR_29_c_946.2.2.2.2.2.2.2.2.2.1
theorem dX12_depth_38 : decode cX12_depth 38 = .ok (.iload 4, 2) := dGR_29_c_946.2.2.2.2.2.2.2.2.2.2.1
theorem dX12_depth_40 : decode cX12_depth 40 = .ok (.invokevirtual 123, 3) := dGR_29_c_946.2.2.2.2.2.2.2.2.2.2.2
set_option maxRecDepth 100000 in
theorem dGR_29_c_947 : (decode cX12_depth 43 = .ok (.ireturn, 1)) ∧ (decode cX12_depth 44 = .ok (.aload_n 0, 1)) ∧ (decode cX12_depth 45 = .ok (.iload_n 1, 1)) ∧ (decode cX12_depth 46 = .ok (.iload_n 2, 1)) ∧ (decode cX12_depth 47 = .ok (.invokevirtual 400, 3)) ∧ (decode cX12_depth 50 = .ok (.aload_n 0, 1)) ∧ (decode cX12_depth 51 = .ok (.iload_n 3, 1)) ∧ (decode cX12_depth 52 = .ok (.ifCond .ne 10, 3)) ∧ (decode cX12_depth 55 = .ok (.aload_n 0, 1)) ∧ (decode cX12_depth 56 = .ok (.getfield 388, 3)) ∧ (decode cX12_depth 59 = .ok (.goto 19, 3)) ∧ (decode cX12_depth 62 = .ok (.iload_n 3, 1)) := by decide +kernel
theorem dX12_depth_43 : decode cX12_depth 43 = .ok (.ireturn, 1) := dGR_29_c_947.1
theorem dX12_depth_44 : decode cX12_depth 44 = .ok (.aload_n 0, 1) := dGR_29_c_947.2.1
theorem dX12_depth_45 : decode cX12_depth 45 = .ok (.iload_n 1, 1) := dGR_29_c_947.2.2.1
theorem dX12_depth_46 : decode cX12_depth 46 = .ok (.iload_n 2, 1) := dGR_29_c_947.2.2.2.1
theorem dX12_depth_47 : decode cX12_depth 47 = .ok (.invokevirtual 400, 3) := dGR_29_c_947.2.2.2.2.1
theorem dX12_depth_50 : decode cX12_depth 50 = .ok (.aload_n 0, 1) := dGR_29_c_947.2.2.2.2.2.1
theorem dX12_depth_51 : decode cX12_depth 51 = .ok (.iload_n 3, 1) := dGR_29_c_947.2.2.2.2.2.2.1
theorem dX12_depth_52 : decode cX12_depth 52 = .ok (.ifCond .ne 10, 3) := dGR_29_c_947.2.2.2.2.2.2.2.1
theorem dX12_depth_55 : decode cX12_depth 55 = .ok (.aload_n 0, 1) := dGR_29_c_947.2.2.2.2.2.2.2.2.1
theorem dX12_depth_56 : decode cX12_depth 56 = .ok (.getfield 388, 3) := dGR_29_c_947.2.2.2.2.2.2.2.2.2.1
theorem dX12_depth_59 : decode cX12_depth 59 = .ok (.goto 19, 3) := dGR_29_c_947.2.2.2.2.2.2.2.2.2.2.1
theorem dX12_depth_62 : decode cX12_depth 62 = .ok (.iload_n 3, 1) := dGR_29_c_947.2.2.2.2.2.2.2.2.2.2.2
set_option maxRecDepth 100000 in
theorem dGR_29_c_948 : (decode cX12_depth 63 = .ok (.iconst 1, 1)) ∧ (decode cX12_depth 64 = .ok (.if_icmp .ne 10, 3)) ∧ (decode cX12_depth 67 = .ok (.aload_n 0, 1)) ∧ (decode cX12_depth 68 = .ok (.getfield 391, 3)) ∧ (decode cX12_depth 71 = .ok (.goto 7, 3)) ∧ (decode cX12_depth 74 = .ok (.aload_n 0, 1)) ∧ (decode cX12_depth 75 = .ok (.getfield 394, 3)) ∧ (decode cX12_depth 78 = .ok (.invokevirtual 127, 3)) ∧ (decode cX12_depth 81 = .ok (.ireturn, 1)) := by decide +kernel
theorem dX12_depth_63 : decode cX12_depth 63 = .ok (.iconst 1, 1) := dGR_29_c_948.1
theorem dX12_depth_64 : decode cX12_depth 64 = .ok (.if_icmp .ne 10, 3) := dGR_29_c_948.2.1
theorem dX12_depth_67 : decode cX12_depth 67 = .ok (.aload_n 0, 1) := dGR_29_c_948.2.2.1
theorem dX12_depth_68 : decode cX12_depth 68 = .ok (.getfield 391, 3) := dGR_29_c_948.2.2.2.1
theorem dX12_depth_71 : decode cX12_depth 71 = .ok (.goto 7, 3) := dGR_29_c_948.2.2.2.2.1
theorem dX12_depth_74 : decode cX12_depth 74 = .ok (.aload_n 0, 1) := dGR_29_c_948.2.2.2.2.2.1
theorem dX12_depth_75 : decode cX12_depth 75 = .ok (.getfield 394, 3) := dGR_29_c_948.2.2.2.2.2.2.1
theorem dX12_depth_78 : decode cX12_depth 78 = .ok (.invokevirtual 127, 3) := dGR_29_c_948.2.2.2.2.2.2.2.1
theorem dX12_depth_81 : decode cX12_depth 81 = .ok (.ireturn, 1) := dGR_29_c_948.2.2.2.2.2.2.2.2
set_option maxRecDepth 100000 in
theorem dGR_29_c_949 : (decode cX12_partner 0 = .ok (.aload_n 0, 1)) ∧ (decode cX12_partner 1 = .ok (.iload_n 1, 1)) ∧ (decode cX12_partner 2 = .ok (.iload_n 2, 1)) ∧ (decode cX12_partner 3 = .ok (.invokevirtual 358, 3)) ∧ (decode cX12_partner 6 = .ok (.ifCond .eq 12, 3)) ∧ (decode cX12_partner 9 = .ok (.iload_n 3, 1)) ∧ (decode cX12_partner 10 = .ok (.ifCond .lt 8, 3)) ∧ (decode cX12_partner 13 = .ok (.iload_n 3, 1)) ∧ (decode cX12_partner 14 = .ok (.iload_n 2, 1)) ∧ (decode cX12_partner 15 = .ok (.if_icmp .lt 9, 3)) ∧ (decode cX12_partner 18 = .ok (.aload_n 0, 1)) ∧ (decode cX12_partner 19 = .ok (.iconst 1, 1)) := by decide +kernel
theorem dX12_partner_0 : decode cX12_partner 0 = .ok (.aload_n 0, 1) := dGR_29_c_949.1
theorem dX12_partner_1 : decode cX12_partner 1 = .ok (.iload_n 1, 1) := dGR_29_c_949.2.1
theorem dX12_partner_2 : decode cX12_partner 2 = .ok (.iload_n 2, 1) := dGR_29_c_949.2.2.1
theorem dX12_partner_3 : decode cX12_partner 3 = .ok (.invokevirtual 358, 3) := dGR_29_c_949.2.2.2.1
theorem dX12_partner_6 : decode cX12_partner 6 = .ok (.ifCond .eq 12, 3) := dGR_29_c_949.2.2.2.2.1
theorem dX12_partner_9 : decode cX12_partner 9 = .ok (.iload_n 3, 1) := dGR_29_c_949.2.2.2.2.2.1
theorem dX12_partner_10 : decode cX12_partner 10 = .ok (.ifCond .lt 8, 3) := dGR_29_c_949.2.2.2.2.2.2.1
theorem dX12_partner_13 : decode cX12_partner 13 = .ok (.iload_n 3, 1) := dGR_29_c_949.2.2.2.2.2.2.2.1
theorem dX12_partner_14 : decode cX12_partner 14 = .ok (.iload_n 2, 1) := dGR_29_c_949.2.2.2.2.2.2.2.2.1
theorem dX12_partner_15 : decode cX12_partner 15 = .ok (.if_icmp .lt 9, 3) := dGR_29_c_949.2.2.2.2.2.2.2.2.2.1
theorem dX12_partner_18 : decode cX12_partner 18 = .ok (.aload_n 0, 1) := dGR_29_c_949.2.2.2.2.2.2.2.2.2.2.1
theorem dX12_partner_19 : decode cX12_partner 19 = .ok (.iconst 1, 1) := dGR_29_c_949.2.2.2.2.2.2.2.2.2.2.2
set_option maxRecDepth 100000 in
theorem dGR_29_c_950 : (decode cX12_partner 20 = .ok (.invokevirtual 123, 3)) ∧ (decode cX12_partner 23 = .ok (.ireturn, 1)) ∧ (decode cX12_partner 24 = .ok (.aload_n 0, 1)) ∧ (decode cX12_partner 25 = .ok (.iload_n 1, 1)) ∧ (decode cX12_partner 26 = .ok (.iload_n 2, 1)) ∧ (decode cX12_partner 27 = .ok (.invokevirtual 361, 3)) ∧ (decode cX12_partner 30 = .ok (.istore 4, 2)) ∧ (decode cX12_partner 32 = .ok (.iload 4, 2)) ∧ (decode cX12_partner 34 = .ok (.ifCond .le 10, 3)) ∧ (decode cX12_partner 37 = .ok (.aload_n 0, 1)) ∧ (decode cX12_partner 38 = .ok (.iload 4, 2)) ∧ (decode cX12_partner 40 = .ok (.invokevirtual 123, 3)) := by decide +kernel
theorem dX12_partner_20 : decode cX12_partner 20 = .ok (.invokevirtual 123, 3) := dGR_29_c_950.1
theorem dX12_partner_23 : decode cX12_partner 23 = .ok (.ireturn, 1) := dGR_29_c_950.2.1
theorem dX12_partner_24 : decode cX12_partner 24 = .ok (.aload_n 0, 1) := dGR_29_c_950.2.2.1
theorem dX12_partner_25 : decode cX12_partner 25 = .ok (.iload_n 1, 1) := dGR_29_c_950.2.2.2.1
theorem dX12_partner_26 : decode cX12_partner 26 = .ok (.iload_n 2, 1) := dGR_29_c_950.2.2.2.2.1
theorem dX12_partner_27 : decode cX12_partner 27 = .ok (.invokevirtual 361, 3) := dGR_29_c_950.2.2.2.2.2.1
theorem dX12_partner_30 : decode cX12_partner 30 = .ok (.istore 4, 2) := dGR_29_c_950.2.2.2.2.2.2.1
theorem dX12_partner_32 : decode cX12_partner 32 = .ok (.iload 4, 2) := dGR_29_c_950.2.2.2.2.2.2.2.1
theorem dX12_partner_34 : decode cX12_partner 34 = .ok (.ifCond .le 10, 3) := dGR_29_c_950.2.2.2.2.2.2.2.2.1
theorem dX12_partner_37 : decode cX12_partner 37 = .ok (.aload_n 0, 1) := dGR_29_c_950.2.2.2.2.2.2.2.2.2.1
theorem dX12_partner_38 : decode cX12_partner 38 = .ok (.iload 4, 2) := dGR_29_c_950.2.2.2.2.2.2.2.2.2.2.1
theorem dX12_partner_40 : decode cX12_partner 40 = .ok (.invokevirtual 123, 3) := dGR_29_c_950.2.2.2.2.2.2.2.2.2.2.2
set_option maxRecDepth 100000 in
theorem dGR_29_c_951 : (decode cX12_partner 43 = .ok (.ireturn, 1)) ∧ (decode cX12_partner 44 = .ok (.aload_n 0, 1)) ∧ (decode cX12_partner 45 = .ok (.iload_n 1, 1)) ∧ (decode cX12_partner 46 = .ok (.iload_n 2, 1)) ∧ (decode cX12_partner 47 = .ok (.invokevirtual 400, 3)) ∧ (decode cX12_partner 50 = .ok (.aload_n 0, 1)) ∧ (decode cX12_partner 51 = .ok (.aload_n 0, 1)) ∧ (decode cX12_partner 52 = .ok (.getfield 71, 3)) ∧ (decode cX12_partner 55 = .ok (.iload_n 3, 1)) ∧ (decode cX12_partner 56 = .ok (.iaload, 1)) ∧ (decode cX12_partner 57 = .ok (.invokevirtual 294, 3)) ∧ (decode cX12_partner 60 = .ok (.ireturn, 1)) := by decide +kernel
theorem dX12_partner_43 : decode cX12_partner 43 = .ok (.ireturn, 1) := dGR_29_c_951.1
theorem dX12_partner_44 : decode cX12_partner 44 = .ok (.aload_n 0, 1) := dGR_29_c_951.2.1
theorem dX12_partner_45 : decode cX12_partner 45 = .ok (.iload_n 1, 1) := dGR_29_c_951.2.2.1
theorem dX12_partner_46 : decode cX12_partner 46 = .ok (.iload_n 2, 1) := dGR_29_c_951.2.2.2.1
theorem dX12_partner_47 : decode cX12_partner 47 = .ok (.invokevirtual 400, 3) := dGR_29_c_951.2.2.2.2.1
theorem dX12_partner_50 : decode cX12_partner 50 = .ok (.aload_n 0, 1) := dGR_29_c_951.2.2.2.2.2.1
theorem dX12_partner_51 : decode cX12_partner 51 = .ok (.aload_n 0, 1) := dGR_29_c_951.2.2.2.2.2.2.1
theorem dX12_partner_52 : decode cX12_partner 52 = .ok (.getfield 71, 3) := dGR_29_c_951.2.2.2.2.2.2.2.1
theorem dX12_partner_55 : decode cX12_partner 55 = .ok (.iload_n 3, 1) := dGR_29_c_951.2.2.2.2.2.2.2.2.1
theorem dX12_partner_56 : decode cX12_partner 56 = .ok (.iaload, 1) := dGR_29_c_951.2.2.2.2.2.2.2.2.2.1
theorem dX12_partner_57 : decode cX12_partner 57 = .ok (.invokevirtual 294, 3) := dGR_29_c_951.2.2.2.2.2.2.2.2.2.2.1
theorem dX12_partner_60 : decode cX12_partner 60 = .ok (.ireturn, 1) := dGR_29_c_951.2.2.2.2.2.2.2.2.2.2.2
