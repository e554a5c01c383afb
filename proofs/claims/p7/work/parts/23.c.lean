set_option maxRecDepth 100000 in
theorem dGR_23_c_10 : (decode cX12_plain 0 = .ok (.iconst 0, 1)) ∧ (decode cX12_plain 1 = .ok (.istore_n 2, 1)) ∧ (decode cX12_plain 2 = .ok (.iload_n 2, 1)) ∧ (decode cX12_plain 3 = .ok (.sipush 272, 3)) ∧ (decode cX12_plain 6 = .ok (.if_icmp .ge 18, 3)) ∧ (decode cX12_plain 9 = .ok (.aload_n 0, 1)) ∧ (decode cX12_plain 10 = .ok (.getfield 7, 3)) ∧ (decode cX12_plain 13 = .ok (.iload_n 1, 1)) ∧ (decode cX12_plain 14 = .ok (.iload_n 2, 1)) ∧ (decode cX12_plain 15 = .ok (.iadd, 1)) ∧ (decode cX12_plain 16 = .ok (.iconst 0, 1)) ∧ (decode cX12_plain 17 = .ok (.iastore, 1)) := by decide +kernel
theorem dX12_plain_0 : decode cX12_plain 0 = .ok (.iconst 0, 1) := dGR_23_c_10.1
theorem dX12_plain_1 : decode cX12_plain 1 = .ok (.istore_n 2, 1) := dGR_23_c_10.2.1
theorem dX12_plain_2 : decode cX12_plain 2 = .ok (.iload_n 2, 1) := dGR_23_c_10.2.2.1
theorem dX12_plain_3 : decode cX12_plain 3 = .ok (.sipush 272, 3) := dGR_23_c_10.2.2.2.1
theorem dX12_plain_6 : decode cX12_plain 6 = .ok (.if_icmp .ge 18, 3) := dGR_23_c_10.2.2.2.2.1
theorem dX12_plain_9 : decode cX12_plain 9 = .ok (.aload_n 0, 1) := dGR_23_c_10.2.2.2.2.2.1
theorem dX12_plain_10 : decode cX12_plain 10 = .ok (.getfield 7, 3) := dGR_23_c_10.2.2.2.2.2.2.1
theorem dX12_plain_13 : decode cX12_plain 13 = .ok (.iload_n 1, 1) := dGR_23_c_10.2.2.2.2.2.2.2.1
theorem dX12_plain_14 : decode cX12_plain 14 = .ok (.iload_n 2, 1) := dGR_23_c_10.2.2.2.2.2.2.2.2.1
theorem dX12_plain_15 : decode cX12_plain 15 = .ok (.iadd, 1) := dGR_23_c_10.2.2.2.2.2.2.2.2.2.1
theorem dX12_plain_16 : decode cX12_plain 16 = .ok (.iconst 0, 1) := dGR_23_c_10.2.2.2.2.2.2.2.2.2.2.1
theorem dX12_plain_17 : decode cX12_plain 17 = .ok (.iastore, 1) := dGR_23_c_10.2.2.2.2.2.2.2.2.2.2.2
set_option maxRecDepth 100000 in
theorem dGR_23_c_11 : (decode cX12_plain 18 = .ok (.iinc 2 1, 3)) ∧ (decode cX12_plain 21 = .ok (.goto (-19), 3)) ∧ (decode cX12_plain 24 = .ok (.aload_n 0, 1)) ∧ (decode cX12_plain 25 = .ok (.getfield 7, 3)) ∧ (decode cX12_plain 28 = .ok (.iload_n 1, 1)) ∧ (decode cX12_plain 29 = .ok (.iconst 4, 1)) ∧ (decode cX12_plain 30 = .ok (.iadd, 1)) ∧ (decode cX12_plain 31 = .ok (.iconst (-1), 1)) ∧ (decode cX12_plain 32 = .ok (.iastore, 1)) ∧ (decode cX12_plain 33 = .ok (.return_, 1)) := by decide +kernel
theorem dX12_plain_18 : decode cX12_plain 18 = .ok (.iinc 2 1, 3) := dGR_23_c_11.1
theorem dX12_plain_21 : decode cX12_plain 21 = .ok (.goto (-19), 3) := dGR_23_c_11.2.1
theorem dX12_plain_24 : decode cX12_plain 24 = .ok (.aload_n 0, 1) := dGR_23_c_11.2.2.1
theorem dX12_plain_25 : decode cX12_plain 25 = .ok (.getfield 7, 3) := dGR_23_c_11.2.2.2.1
theorem dX12_plain_28 : decode cX12_plain 28 = .ok (.iload_n 1, 1) := dGR_23_c_11.2.2.2.2.1
theorem dX12_plain_29 : decode cX12_plain 29 = .ok (.iconst 4, 1) := dGR_23_c_11.2.2.2.2.2.1
theorem dX12_plain_30 : decode cX12_plain 30 = .ok (.iadd, 1) := dGR_23_c_11.2.2.2.2.2.2.1
theorem dX12_plain_31 : decode cX12_plain 31 = .ok (.iconst (-1), 1) := dGR_23_c_11.2.2.2.2.2.2.2.1
theorem dX12_plain_32 : decode cX12_plain 32 = .ok (.iastore, 1) := dGR_23_c_11.2.2.2.2.2.2.2.2.1
theorem dX12_plain_33 : decode cX12_plain 33 = .ok (.return_, 1) := dGR_23_c_11.2.2.2.2.2.2.2.2.2
