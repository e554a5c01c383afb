set_option maxRecDepth 100000 in
theorem dGR_26_c_844 : (decode cX12_aRule 0 = .ok (.sipush 1088, 3)) ∧ (decode cX12_aRule 3 = .ok (.iload_n 1, 1)) ∧ (decode cX12_aRule 4 = .ok (.invokestatic 216, 3)) ∧ (decode cX12_aRule 7 = .ok (.istore_n 2, 1)) ∧ (decode cX12_aRule 8 = .ok (.aload_n 0, 1)) ∧ (decode cX12_aRule 9 = .ok (.getfield 7, 3)) ∧ (decode cX12_aRule 12 = .ok (.iload_n 2, 1)) ∧ (decode cX12_aRule 13 = .ok (.iconst 4, 1)) ∧ (decode cX12_aRule 14 = .ok (.iadd, 1)) ∧ (decode cX12_aRule 15 = .ok (.iaload, 1)) ∧ (decode cX12_aRule 16 = .ok (.istore_n 3, 1)) ∧ (decode cX12_aRule 17 = .ok (.iload_n 3, 1)) := by decide +kernel
theorem dX12_aRule_0 : decode cX12_aRule 0 = .ok (.sipush 1088, 3) := dGR_26_c_844.1
theorem dX12_aRule_3 : decode cX12_aRule 3 = .ok (.iload_n 1, 1) := dGR_26_c_844.2.1
theorem dX12_aRule_4 : decode cX12_aRule 4 = .ok (.invokestatic 216, 3) := dGR_26_c_844.2.2.1
theorem dX12_aRule_7 : decode cX12_aRule 7 = .ok (.istore_n 2, 1) := dGR_26_c_844.2.2.2.1
theorem dX12_aRule_8 : decode cX12_aRule 8 = .ok (.aload_n 0, 1) := dGR_26_c_844.2.2.2.2.1
theorem dX12_aRule_9 : decode cX12_aRule 9 = .ok (.getfield 7, 3) := dGR_26_c_844.2.2.2.2.2.1
theorem dX12_aRule_12 : decode cX12_aRule 12 = .ok (.iload_n 2, 1) := dGR_26_c_844.2.2.2.2.2.2.1
theorem dX12_aRule_13 : decode cX12_aRule 13 = .ok (.iconst 4, 1) := dGR_26_c_844.2.2.2.2.2.2.2.1
theorem dX12_aRule_14 : decode cX12_aRule 14 = .ok (.iadd, 1) := dGR_26_c_844.2.2.2.2.2.2.2.2.1
theorem dX12_aRule_15 : decode cX12_aRule 15 = .ok (.iaload, 1) := dGR_26_c_844.2.2.2.2.2.2.2.2.2.1
theorem dX12_aRule_16 : decode cX12_aRule 16 = .ok (.istore_n 3, 1) := dGR_26_c_844.2.2.2.2.2.2.2.2.2.2.1
theorem dX12_aRule_17 : decode cX12_aRule 17 = .ok (.iload_n 3, 1) := dGR_26_c_844.2.2.2.2.2.2.2.2.2.2.2
set_option maxRecDepth 100000 in
theorem dGR_26_c_845 : (decode cX12_aRule 18 = .ok (.bipush 20, 2)) ∧ (decode cX12_aRule 20 = .ok (.if_icmp .ne 10, 3)) ∧ (decode cX12_aRule 23 = .ok (.aload_n 0, 1)) ∧ (decode cX12_aRule 24 = .ok (.bipush 6, 2)) ∧ (decode cX12_aRule 26 = .ok (.invokevirtual 205, 3)) ∧ (decode cX12_aRule 29 = .ok (.ireturn, 1)) ∧ (decode cX12_aRule 30 = .ok (.sipush 1088, 3)) ∧ (decode cX12_aRule 33 = .ok (.iload_n 1, 1)) ∧ (decode cX12_aRule 34 = .ok (.iload_n 3, 1)) ∧ (decode cX12_aRule 35 = .ok (.invokestatic 243, 3)) ∧ (decode cX12_aRule 38 = .ok (.istore 4, 2)) ∧ (decode cX12_aRule 40 = .ok (.aload_n 0, 1)) := by decide +kernel
theorem dX12_aRule_18 : decode cX12_aRule 18 = .ok (.bipush 20, 2) := dGR_26_c_845.1
theorem dX12_aRule_20 : decode cX12_aRule 20 = .ok (.if_icmp .ne 10, 3) := dGR_26_c_845.2.1
theorem dX12_aRule_23 : decode cX12_aRule 23 = .ok (.aload_n 0, 1) := dGR_26_c_845.2.2.1
theorem dX12_aRule_24 : decode cX12_aRule 24 = .ok (.bipush 6, 2) := dGR_26_c_845.2.2.2.1
theorem dX12_aRule_26 : decode cX12_aRule 26 = .ok (.invokevirtual 205, 3) := dGR_26_c_845.2.2.2.2.1
theorem dX12_aRule_29 : decode cX12_aRule 29 = .ok (.ireturn, 1) := dGR_26_c_845.2.2.2.2.2.1
theorem dX12_aRule_30 : decode cX12_aRule 30 = .ok (.sipush 1088, 3) := dGR_26_c_845.2.2.2.2.2.2.1
theorem dX12_aRule_33 : decode cX12_aRule 33 = .ok (.iload_n 1, 1) := dGR_26_c_845.2.2.2.2.2.2.2.1
theorem dX12_aRule_34 : decode cX12_aRule 34 = .ok (.iload_n 3, 1) := dGR_26_c_845.2.2.2.2.2.2.2.2.1
theorem dX12_aRule_35 : decode cX12_aRule 35 = .ok (.invokestatic 243, 3) := dGR_26_c_845.2.2.2.2.2.2.2.2.2.1
theorem dX12_aRule_38 : decode cX12_aRule 38 = .ok (.istore 4, 2) := dGR_26_c_845.2.2.2.2.2.2.2.2.2.2.1
theorem dX12_aRule_40 : decode cX12_aRule 40 = .ok (.aload_n 0, 1) := dGR_26_c_845.2.2.2.2.2.2.2.2.2.2.2
set_option maxRecDepth 100000 in
theorem dGR_26_c_846 : (decode cX12_aRule 41 = .ok (.invokevirtual 199, 3)) ∧ (decode cX12_aRule 44 = .ok (.aload_n 0, 1)) ∧ (decode cX12_aRule 45 = .ok (.ldc 219, 2)) ∧ (decode cX12_aRule 47 = .ok (.invokevirtual 224, 3)) ∧ (decode cX12_aRule 50 = .ok (.ifCond .ne 9, 3)) ∧ (decode cX12_aRule 53 = .ok (.aload_n 0, 1)) ∧ (decode cX12_aRule 54 = .ok (.iconst 2, 1)) ∧ (decode cX12_aRule 55 = .ok (.invokevirtual 205, 3)) ∧ (decode cX12_aRule 58 = .ok (.ireturn, 1)) ∧ (decode cX12_aRule 59 = .ok (.aload_n 0, 1)) ∧ (decode cX12_aRule 60 = .ok (.invokevirtual 228, 3)) ∧ (decode cX12_aRule 63 = .ok (.istore 5, 2)) := by decide +kernel
theorem dX12_aRule_41 : decode cX12_aRule 41 = .ok (.invokevirtual 199, 3) := dGR_26_c_846.1
theorem dX12_aRule_44 : decode cX12_aRule 44 = .ok (.aload_n 0, 1) := dGR_26_c_846.2.1
theorem dX12_aRule_45 : decode cX12_aRule 45 = .ok (.ldc 219, 2) := dGR_26_c_846.2.2.1
theorem dX12_aRule_47 : decode cX12_aRule 47 = .ok (.invokevirtual 224, 3) := dGR_26_c_846.2.2.2.1
theorem dX12_aRule_50 : decode cX12_aRule 50 = .ok (.ifCond .ne 9, 3) := dGR_26_c_846.2.2.2.2.1
theorem dX12_aRule_53 : decode cX12_aRule 53 = .ok (.aload_n 0, 1) := dGR_26_c_846.2.2.2.2.2.1
theorem dX12_aRule_54 : decode cX12_aRule 54 = .ok (.iconst 2, 1) := dGR_26_c_846.2.2.2.2.2.2.1
theorem dX12_aRule_55 : decode cX12_aRule 55 = .ok (.invokevirtual 205, 3) := dGR_26_c_846.2.2.2.2.2.2.2.1
theorem dX12_aRule_58 : decode cX12_aRule 58 = .ok (.ireturn, 1) := dGR_26_c_846.2.2.2.2.2.2.2.2.1
theorem dX12_aRule_59 : decode cX12_aRule 59 = .ok (.aload_n 0, 1) := dGR_26_c_846.2.2.2.2.2.2.2.2.2.1
theorem dX12_aRule_60 : decode cX12_aRule 60 = .ok (.invokevirtual 228, 3) := dGR_26_c_846.2.2.2.2.2.2.2.2.2.2.1
theorem dX12_aRule_63 : decode cX12_aRule 63 = .ok (.istore 5, 2) := dGR_26_c_846.2.2.2.2.2.2.2.2.2.2.2
set_option maxRecDepth 100000 in
theorem dGR_26_c_847 : (decode cX12_aRule 65 = .ok (.iload 5, 2)) ∧ (decode cX12_aRule 67 = .ok (.iconst (-1), 1)) ∧ (decode cX12_aRule 68 = .ok (.if_icmp .ne 9, 3)) ∧ (decode cX12_aRule 71 = .ok (.aload_n 0, 1)) ∧ (decode cX12_aRule 72 = .ok (.iconst 3, 1)) ∧ (decode cX12_aRule 73 = .ok (.invokevirtual 205, 3)) ∧ (decode cX12_aRule 76 = .ok (.ireturn, 1)) ∧ (decode cX12_aRule 77 = .ok (.aload_n 0, 1)) ∧ (decode cX12_aRule 78 = .ok (.invokevirtual 199, 3)) ∧ (decode cX12_aRule 81 = .ok (.aload_n 0, 1)) ∧ (decode cX12_aRule 82 = .ok (.iload 4, 2)) ∧ (decode cX12_aRule 84 = .ok (.iconst 1, 1)) := by decide +kernel
theorem dX12_aRule_65 : decode cX12_aRule 65 = .ok (.iload 5, 2) := dGR_26_c_847.1
theorem dX12_aRule_67 : decode cX12_aRule 67 = .ok (.iconst (-1), 1) := dGR_26_c_847.2.1
theorem dX12_aRule_68 : decode cX12_aRule 68 = .ok (.if_icmp .ne 9, 3) := dGR_26_c_847.2.2.1
theorem dX12_aRule_71 : decode cX12_aRule 71 = .ok (.aload_n 0, 1) := dGR_26_c_847.2.2.2.1
theorem dX12_aRule_72 : decode cX12_aRule 72 = .ok (.iconst 3, 1) := dGR_26_c_847.2.2.2.2.1
theorem dX12_aRule_73 : decode cX12_aRule 73 = .ok (.invokevirtual 205, 3) := dGR_26_c_847.2.2.2.2.2.1
theorem dX12_aRule_76 : decode cX12_aRule 76 = .ok (.ireturn, 1) := dGR_26_c_847.2.2.2.2.2.2.1
theorem dX12_aRule_77 : decode cX12_aRule 77 = .ok (.aload_n 0, 1) := dGR_26_c_847.2.2.2.2.2.2.2.1
theorem dX12_aRule_78 : decode cX12_aRule 78 = .ok (.invokevirtual 199, 3) := dGR_26_c_847.2.2.2.2.2.2.2.2.1
theorem dX12_aRule_81 : decode cX12_aRule 81 = .ok (.aload_n 0, 1) := dGR_26_c_847.2.2.2.2.2.2.2.2.2.1
theorem dX12_aRule_82 : decode cX12_aRule 82 = .ok (.iload 4, 2) := dGR_26_c_847.2.2.2.2.2.2.2.2.2.2.1
theorem dX12_aRule_84 : decode cX12_aRule 84 = .ok (.iconst 1, 1) := dGR_26_c_847.2.2.2.2.2.2.2.2.2.2.2
set_option maxRecDepth 100000 in
theorem dGR_26_c_848 : (decode cX12_aRule 85 = .ok (.iadd, 1)) ∧ (decode cX12_aRule 86 = .ok (.iconst 0, 1)) ∧ (decode cX12_aRule 87 = .ok (.aload_n 0, 1)) ∧ (decode cX12_aRule 88 = .ok (.getfield 7, 3)) ∧ (decode cX12_aRule 91 = .ok (.iload_n 2, 1)) ∧ (decode cX12_aRule 92 = .ok (.iaload, 1)) ∧ (decode cX12_aRule 93 = .ok (.iconst 1, 1)) ∧ (decode cX12_aRule 94 = .ok (.isub, 1)) ∧ (decode cX12_aRule 95 = .ok (.invokevirtual 231, 3)) ∧ (decode cX12_aRule 98 = .ok (.ifCond .eq 23, 3)) ∧ (decode cX12_aRule 101 = .ok (.aload_n 0, 1)) ∧ (decode cX12_aRule 102 = .ok (.iload 4, 2)) := by decide +kernel
theorem dX12_aRule_85 : decode cX12_aRule 85 = .ok (.iadd, 1) := dGR_26_c_848.1
theorem dX12_aRule_86 : decode cX12_aRule 86 = .ok (.iconst 0, 1) := dGR_26_c_848.2.1
theorem dX12_aRule_87 : decode cX12_aRule 87 = .ok (.aload_n 0, 1) := dGR_26_c_848.2.2.1
theorem dX12_aRule_88 : decode cX12_aRule 88 = .ok (.getfield 7, 3) := dGR_26_c_848.2.2.2.1
theorem dX12_aRule_91 : decode cX12_aRule 91 = .ok (.iload_n 2, 1) := dGR_26_c_848.2.2.2.2.1
theorem dX12_aRule_92 : decode cX12_aRule 92 = .ok (.iaload, 1) := dGR_26_c_848.2.2.2.2.2.1
theorem dX12_aRule_93 : decode cX12_aRule 93 = .ok (.iconst 1, 1) := dGR_26_c_848.2.2.2.2.2.2.1
theorem dX12_aRule_94 : decode cX12_aRule 94 = .ok (.isub, 1) := dGR_26_c_848.2.2.2.2.2.2.2.1
theorem dX12_aRule_95 : decode cX12_aRule 95 = .ok (.invokevirtual 231, 3) := dGR_26_c_848.2.2.2.2.2.2.2.2.1
theorem dX12_aRule_98 : decode cX12_aRule 98 = .ok (.ifCond .eq 23, 3) := dGR_26_c_848.2.2.2.2.2.2.2.2.2.1
theorem dX12_aRule_101 : decode cX12_aRule 101 = .ok (.aload_n 0, 1) := dGR_26_c_848.2.2.2.2.2.2.2.2.2.2.1
theorem dX12_aRule_102 : decode cX12_aRule 102 = .ok (.iload 4, 2) := dGR_26_c_848.2.2.2.2.2.2.2.2.2.2.2
set_option maxRecDepth 100000 in
theorem dGR_26_c_849 : (decode cX12_aRule 104 = .ok (.iconst 2, 1)) ∧ (decode cX12_aRule 105 = .ok (.iadd, 1)) ∧ (decode cX12_aRule 106 = .ok (.iconst 0, 1)) ∧ (decode cX12_aRule 107 = .ok (.aload_n 0, 1)) ∧ (decode cX12_aRule 108 = .ok (.getfield 7, 3)) ∧ (decode cX12_aRule 111 = .ok (.iload_n 2, 1)) ∧ (decode cX12_aRule 112 = .ok (.iaload, 1)) ∧ (decode cX12_aRule 113 = .ok (.iconst 1, 1)) ∧ (decode cX12_aRule 114 = .ok (.isub, 1)) ∧ (decode cX12_aRule 115 = .ok (.invokevirtual 231, 3)) ∧ (decode cX12_aRule 118 = .ok (.ifCond .ne 5, 3)) ∧ (decode cX12_aRule 121 = .ok (.iconst 0, 1)) := by decide +kernel
theorem dX12_aRule_104 : decode cX12_aRule 104 = .ok (.iconst 2, 1) := dGR_26_c_849.1
theorem dX12_aRule_105 : decode cX12_aRule 105 = .ok (.iadd, 1) := dGR_26_c_849.2.1
theorem dX12_aRule_106 : decode cX12_aRule 106 = .ok (.iconst 0, 1) := dGR_26_c_849.2.2.1
theorem dX12_aRule_107 : decode cX12_aRule 107 = .ok (.aload_n 0, 1) := dGR_26_c_849.2.2.2.1
theorem dX12_aRule_108 : decode cX12_aRule 108 = .ok (.getfield 7, 3) := dGR_26_c_849.2.2.2.2.1
theorem dX12_aRule_111 : decode cX12_aRule 111 = .ok (.iload_n 2, 1) := dGR_26_c_849.2.2.2.2.2.1
theorem dX12_aRule_112 : decode cX12_aRule 112 = .ok (.iaload, 1) := dGR_26_c_849.2.2.2.2.2.2.1
theorem dX12_aRule_113 : decode cX12_aRule 113 = .ok (.iconst 1, 1) := dGR_26_c_849.2.2.2.2.2.2.2.1
theorem dX12_aRule_114 : decode cX12_aRule 114 = .ok (.isub, 1) := dGR_26_c_849.2.2.2.2.2.2.2.2.1
theorem dX12_aRule_115 : decode cX12_aRule 115 = .ok (.invokevirtual 231, 3) := dGR_26_c_849.2.2.2.2.2.2.2.2.2.1
theorem dX12_aRule_118 : decode cX12_aRule 118 = .ok (.ifCond .ne 5, 3) := dGR_26_c_849.2.2.2.2.2.2.2.2.2.2.1
theorem dX12_aRule_121 : decode cX12_aRule 121 = .ok (.iconst 0, 1) := dGR_26_c_849.2.2.2.2.2.2.2.2.2.2.2
set_option maxRecDepth 100000 in
theorem dGR_26_c_850 : (decode cX12_aRule 122 = .ok (.ireturn, 1)) ∧ (decode cX12_aRule 123 = .ok (.aload_n 0, 1)) ∧ (decode cX12_aRule 124 = .ok (.getfield 7, 3)) ∧ (decode cX12_aRule 127 = .ok (.iload 4, 2)) ∧ (decode cX12_aRule 129 = .ok (.iload 5, 2)) ∧ (decode cX12_aRule 131 = .ok (.iastore, 1)) ∧ (decode cX12_aRule 132 = .ok (.aload_n 0, 1)) ∧ (decode cX12_aRule 133 = .ok (.getfield 7, 3)) ∧ (decode cX12_aRule 136 = .ok (.iload 4, 2)) ∧ (decode cX12_aRule 138 = .ok (.iconst 3, 1)) ∧ (decode cX12_aRule 139 = .ok (.iadd, 1)) ∧ (decode cX12_aRule 140 = .ok (.iconst (-1), 1)) := by decide +kernel
theorem dX12_aRule_122 : decode cX12_aRule 122 = .ok (.ireturn, 1) := dGR_26_c_850.1
theorem dX12_aRule_123 : decode cX12_aRule 123 = .ok (.aload_n 0, 1) := dGR_26_c_850.2.1
theorem dX12_aRule_124 : decode cX12_aRule 124 = .ok (.getfield 7, 3) := dGR_26_c_850.2.2.1
theorem dX12_aRule_127 : decode cX12_aRule 127 = .ok (.iload 4, 2) := dGR_26_c_850.2.2.2.1
theorem dX12_aRule_129 : decode cX12_aRule 129 = .ok (.iload 5, 2) := dGR_26_c_850.2.2.2.2.1
theorem dX12_aRule_131 : decode cX12_aRule 131 = .ok (.iastore, 1) := dGR_26_c_850.2.2.2.2.2.1
theorem dX12_aRule_132 : decode cX12_aRule 132 = .ok (.aload_n 0, 1) := dGR_26_c_850.2.2.2.2.2.2.1
theorem dX12_aRule_133 : decode cX12_aRule 133 = .ok (.getfield 7, 3) := dGR_26_c_850.2.2.2.2.2.2.2.1
theorem dX12_aRule_136 : decode cX12_aRule 136 = .ok (.iload 4, 2) := dGR_26_c_850.2.2.2.2.2.2.2.2.1
theorem dX12_aRule_138 : decode cX12_aRule 138 = .ok (.iconst 3, 1) := dGR_26_c_850.2.2.2.2.2.2.2.2.2.1
theorem dX12_aRule_139 : decode cX12_aRule 139 = .ok (.iadd, 1) := dGR_26_c_850.2.2.2.2.2.2.2.2.2.2.1
theorem dX12_aRule_140 : decode cX12_aRule 140 = .ok (.iconst (-1), 1) := dGR_26_c_850.2.2.2.2.2.2.2.2.2.2.2
set_option maxRecDepth 100000 in
theorem dGR_26_c_851 : (decode cX12_aRule 141 = .ok (.iastore, 1)) ∧ (decode cX12_aRule 142 = .ok (.aload_n 0, 1)) ∧ (decode cX12_aRule 143 = .ok (.sipush 1088, 3)) ∧ (decode cX12_aRule 146 = .ok (.iload 5, 2)) ∧ (decode cX12_aRule 148 = .ok (.invokevirtual 247, 3)) ∧ (decode cX12_aRule 151 = .ok (.istore 6, 2)) ∧ (decode cX12_aRule 153 = .ok (.iload 6, 2)) ∧ (decode cX12_aRule 155 = .ok (.ifCond .ne 16, 3)) ∧ (decode cX12_aRule 158 = .ok (.aload_n 0, 1)) ∧ (decode cX12_aRule 159 = .ok (.ldc 219, 2)) ∧ (decode cX12_aRule 161 = .ok (.bipush 8, 2)) ∧ (decode cX12_aRule 163 = .ok (.invokevirtual 235, 3)) := by decide +kernel
theorem dX12_aRule_141 : decode cX12_aRule 141 = .ok (.iastore, 1) := dGR_26_c_851.1
theorem dX12_aRule_142 : decode cX12_aRule 142 = .ok (.aload_n 0, 1) := dGR_26_c_851.2.1
theorem dX12_aRule_143 : decode cX12_aRule 143 = .ok (.sipush 1088, 3) := dGR_26_c_851.2.2.1
theorem dX12_aRule_146 : decode cX12_aRule 146 = .ok (.iload 5, 2) := dGR_26_c_851.2.2.2.1
theorem dX12_aRule_148 : decode cX12_aRule 148 = .ok (.invokevirtual 247, 3) := dGR_26_c_851.2.2.2.2.1
theorem dX12_aRule_151 : decode cX12_aRule 151 = .ok (.istore 6, 2) := dGR_26_c_851.2.2.2.2.2.1
theorem dX12_aRule_153 : decode cX12_aRule 153 = .ok (.iload 6, 2) := dGR_26_c_851.2.2.2.2.2.2.1
theorem dX12_aRule_155 : decode cX12_aRule 155 = .ok (.ifCond .ne 16, 3) := dGR_26_c_851.2.2.2.2.2.2.2.1
theorem dX12_aRule_158 : decode cX12_aRule 158 = .ok (.aload_n 0, 1) := dGR_26_c_851.2.2.2.2.2.2.2.2.1
theorem dX12_aRule_159 : decode cX12_aRule 159 = .ok (.ldc 219, 2) := dGR_26_c_851.2.2.2.2.2.2.2.2.2.1
theorem dX12_aRule_161 : decode cX12_aRule 161 = .ok (.bipush 8, 2) := dGR_26_c_851.2.2.2.2.2.2.2.2.2.2.1
theorem dX12_aRule_163 : decode cX12_aRule 163 = .ok (.invokevirtual 235, 3) := dGR_26_c_851.2.2.2.2.2.2.2.2.2.2.2
set_option maxRecDepth 100000 in
theorem dGR_26_c_852 : (decode cX12_aRule 166 = .ok (.ifCond .ne 5, 3)) ∧ (decode cX12_aRule 169 = .ok (.iconst 0, 1)) ∧ (decode cX12_aRule 170 = .ok (.ireturn, 1)) ∧ (decode cX12_aRule 171 = .ok (.iload 6, 2)) ∧ (decode cX12_aRule 173 = .ok (.iconst 1, 1)) ∧ (decode cX12_aRule 174 = .ok (.if_icmp .ne 47, 3)) ∧ (decode cX12_aRule 177 = .ok (.aload_n 0, 1)) ∧ (decode cX12_aRule 178 = .ok (.bipush 10, 2)) ∧ (decode cX12_aRule 180 = .ok (.invokevirtual 250, 3)) ∧ (decode cX12_aRule 183 = .ok (.ifCond .ne 38, 3)) ∧ (decode cX12_aRule 186 = .ok (.aload_n 0, 1)) ∧ (decode cX12_aRule 187 = .ok (.ldc 219, 2)) := by decide +kernel
theorem dX12_aRule_166 : decode cX12_aRule 166 = .ok (.ifCond .ne 5, 3) := dGR_26_c_852.1
theorem dX12_aRule_169 : decode cX12_aRule 169 = .ok (.iconst 0, 1) := dGR_26_c_852.2.1
theorem dX12_aRule_170 : decode cX12_aRule 170 = .ok (.ireturn, 1) := dGR_26_c_852.2.2.1
theorem dX12_aRule_171 : decode cX12_aRule 171 = .ok (.iload 6, 2) := dGR_26_c_852.2.2.2.1
theorem dX12_aRule_173 : decode cX12_aRule 173 = .ok (.iconst 1, 1) := dGR_26_c_852.2.2.2.2.1
theorem dX12_aRule_174 : decode cX12_aRule 174 = .ok (.if_icmp .ne 47, 3) := dGR_26_c_852.2.2.2.2.2.1
theorem dX12_aRule_177 : decode cX12_aRule 177 = .ok (.aload_n 0, 1) := dGR_26_c_852.2.2.2.2.2.2.1
theorem dX12_aRule_178 : decode cX12_aRule 178 = .ok (.bipush 10, 2) := dGR_26_c_852.2.2.2.2.2.2.2.1
theorem dX12_aRule_180 : decode cX12_aRule 180 = .ok (.invokevirtual 250, 3) := dGR_26_c_852.2.2.2.2.2.2.2.2.1
theorem dX12_aRule_183 : decode cX12_aRule 183 = .ok (.ifCond .ne 38, 3) := dGR_26_c_852.2.2.2.2.2.2.2.2.2.1
theorem dX12_aRule_186 : decode cX12_aRule 186 = .ok (.aload_n 0, 1) := dGR_26_c_852.2.2.2.2.2.2.2.2.2.2.1
theorem dX12_aRule_187 : decode cX12_aRule 187 = .ok (.ldc 219, 2) := dGR_26_c_852.2.2.2.2.2.2.2.2.2.2.2
set_option maxRecDepth 100000 in
theorem dGR_26_c_853 : (decode cX12_aRule 189 = .ok (.bipush 9, 2)) ∧ (decode cX12_aRule 191 = .ok (.invokevirtual 235, 3)) ∧ (decode cX12_aRule 194 = .ok (.ifCond .eq 25, 3)) ∧ (decode cX12_aRule 197 = .ok (.aload_n 0, 1)) ∧ (decode cX12_aRule 198 = .ok (.iload 4, 2)) ∧ (decode cX12_aRule 200 = .ok (.iconst 3, 1)) ∧ (decode cX12_aRule 201 = .ok (.iadd, 1)) ∧ (decode cX12_aRule 202 = .ok (.iconst 0, 1)) ∧ (decode cX12_aRule 203 = .ok (.aload_n 0, 1)) ∧ (decode cX12_aRule 204 = .ok (.getfield 7, 3)) ∧ (decode cX12_aRule 207 = .ok (.iload_n 2, 1)) ∧ (decode cX12_aRule 208 = .ok (.iconst 1, 1)) := by decide +kernel
theorem dX12_aRule_189 : decode cX12_aRule 189 = .ok (.bipush 9, 2) := dGR_26_c_853.1
theorem dX12_aRule_191 : decode cX12_aRule 191 = .ok (.invokevirtual 235, 3) := dGR_26_c_853.2.1
theorem dX12_aRule_194 : decode cX12_aRule 194 = .ok (.ifCond .eq 25, 3) := dGR_26_c_853.2.2.1
theorem dX12_aRule_197 : decode cX12_aRule 197 = .ok (.aload_n 0, 1) := dGR_26_c_853.2.2.2.1
theorem dX12_aRule_198 : decode cX12_aRule 198 = .ok (.iload 4, 2) := dGR_26_c_853.2.2.2.2.1
theorem dX12_aRule_200 : decode cX12_aRule 200 = .ok (.iconst 3, 1) := dGR_26_c_853.2.2.2.2.2.1
theorem dX12_aRule_201 : decode cX12_aRule 201 = .ok (.iadd, 1) := dGR_26_c_853.2.2.2.2.2.2.1
theorem dX12_aRule_202 : decode cX12_aRule 202 = .ok (.iconst 0, 1) := dGR_26_c_853.2.2.2.2.2.2.2.1
theorem dX12_aRule_203 : decode cX12_aRule 203 = .ok (.aload_n 0, 1) := dGR_26_c_853.2.2.2.2.2.2.2.2.1
theorem dX12_aRule_204 : decode cX12_aRule 204 = .ok (.getfield 7, 3) := dGR_26_c_853.2.2.2.2.2.2.2.2.2.1
theorem dX12_aRule_207 : decode cX12_aRule 207 = .ok (.iload_n 2, 1) := dGR_26_c_853.2.2.2.2.2.2.2.2.2.2.1
theorem dX12_aRule_208 : decode cX12_aRule 208 = .ok (.iconst 1, 1) := dGR_26_c_853.2.2.2.2.2.2.2.2.2.2.2
set_option maxRecDepth 100000 in
theorem dGR_26_c_854 : (decode cX12_aRule 209 = .ok (.iadd, 1)) ∧ (decode cX12_aRule 210 = .ok (.iaload, 1)) ∧ (decode cX12_aRule 211 = .ok (.iconst 1, 1)) ∧ (decode cX12_aRule 212 = .ok (.isub, 1)) ∧ (decode cX12_aRule 213 = .ok (.invokevirtual 231, 3)) ∧ (decode cX12_aRule 216 = .ok (.ifCond .ne 5, 3)) ∧ (decode cX12_aRule 219 = .ok (.iconst 0, 1)) ∧ (decode cX12_aRule 220 = .ok (.ireturn, 1)) ∧ (decode cX12_aRule 221 = .ok (.iload 6, 2)) ∧ (decode cX12_aRule 223 = .ok (.ifCond .ne 27, 3)) ∧ (decode cX12_aRule 226 = .ok (.aload_n 0, 1)) ∧ (decode cX12_aRule 227 = .ok (.iload 4, 2)) := by decide +kernel
theorem dX12_aRule_209 : decode cX12_aRule 209 = .ok (.iadd, 1) := dGR_26_c_854.1
theorem dX12_aRule_210 : decode cX12_aRule 210 = .ok (.iaload, 1) := dGR_26_c_854.2.1
theorem dX12_aRule_211 : decode cX12_aRule 211 = .ok (.iconst 1, 1) := dGR_26_c_854.2.2.1
theorem dX12_aRule_212 : decode cX12_aRule 212 = .ok (.isub, 1) := dGR_26_c_854.2.2.2.1
theorem dX12_aRule_213 : decode cX12_aRule 213 = .ok (.invokevirtual 231, 3) := dGR_26_c_854.2.2.2.2.1
theorem dX12_aRule_216 : decode cX12_aRule 216 = .ok (.ifCond .ne 5, 3) := dGR_26_c_854.2.2.2.2.2.1
theorem dX12_aRule_219 : decode cX12_aRule 219 = .ok (.iconst 0, 1) := dGR_26_c_854.2.2.2.2.2.2.1
theorem dX12_aRule_220 : decode cX12_aRule 220 = .ok (.ireturn, 1) := dGR_26_c_854.2.2.2.2.2.2.2.1
theorem dX12_aRule_221 : decode cX12_aRule 221 = .ok (.iload 6, 2) := dGR_26_c_854.2.2.2.2.2.2.2.2.1
theorem dX12_aRule_223 : decode cX12_aRule 223 = .ok (.ifCond .ne 27, 3) := dGR_26_c_854.2.2.2.2.2.2.2.2.2.1
theorem dX12_aRule_226 : decode cX12_aRule 226 = .ok (.aload_n 0, 1) := dGR_26_c_854.2.2.2.2.2.2.2.2.2.2.1
theorem dX12_aRule_227 : decode cX12_aRule 227 = .ok (.iload 4, 2) := dGR_26_c_854.2.2.2.2.2.2.2.2.2.2.2
set_option maxRecDepth 100000 in
theorem dGR_26_c_855 : (decode cX12_aRule 229 = .ok (.iconst 3, 1)) ∧ (decode cX12_aRule 230 = .ok (.iadd, 1)) ∧ (decode cX12_aRule 231 = .ok (.iconst 0, 1)) ∧ (decode cX12_aRule 232 = .ok (.aload_n 0, 1)) ∧ (decode cX12_aRule 233 = .ok (.getfield 7, 3)) ∧ (decode cX12_aRule 236 = .ok (.iload_n 2, 1)) ∧ (decode cX12_aRule 237 = .ok (.iconst 1, 1)) ∧ (decode cX12_aRule 238 = .ok (.iadd, 1)) ∧ (decode cX12_aRule 239 = .ok (.iaload, 1)) ∧ (decode cX12_aRule 240 = .ok (.iconst 1, 1)) ∧ (decode cX12_aRule 241 = .ok (.isub, 1)) ∧ (decode cX12_aRule 242 = .ok (.invokevirtual 231, 3)) := by decide +kernel
theorem dX12_aRule_229 : decode cX12_aRule 229 = .ok (.iconst 3, 1) := dGR_26_c_855.1
theorem dX12_aRule_230 : decode cX12_aRule 230 = .ok (.iadd, 1) := dGR_26_c_855.2.1
theorem dX12_aRule_231 : decode cX12_aRule 231 = .ok (.iconst 0, 1) := dGR_26_c_855.2.2.1
theorem dX12_aRule_232 : decode cX12_aRule 232 = .ok (.aload_n 0, 1) := dGR_26_c_855.2.2.2.1
theorem dX12_aRule_233 : decode cX12_aRule 233 = .ok (.getfield 7, 3) := dGR_26_c_855.2.2.2.2.1
theorem dX12_aRule_236 : decode cX12_aRule 236 = .ok (.iload_n 2, 1) := dGR_26_c_855.2.2.2.2.2.1
theorem dX12_aRule_237 : decode cX12_aRule 237 = .ok (.iconst 1, 1) := dGR_26_c_855.2.2.2.2.2.2.1
theorem dX12_aRule_238 : decode cX12_aRule 238 = .ok (.iadd, 1) := dGR_26_c_855.2.2.2.2.2.2.2.1
theorem dX12_aRule_239 : decode cX12_aRule 239 = .ok (.iaload, 1) := dGR_26_c_855.2.2.2.2.2.2.2.2.1
theorem dX12_aRule_240 : decode cX12_aRule 240 = .ok (.iconst 1, 1) := dGR_26_c_855.2.2.2.2.2.2.2.2.2.1
theorem dX12_aRule_241 : decode cX12_aRule 241 = .ok (.isub, 1) := dGR_26_c_855.2.2.2.2.2.2.2.2.2.2.1
theorem dX12_aRule_242 : decode cX12_aRule 242 = .ok (.invokevirtual 231, 3) := dGR_26_c_855.2.2.2.2.2.2.2.2.2.2.2
set_option maxRecDepth 100000 in
theorem dGR_26_c_856 : (decode cX12_aRule 245 = .ok (.ifCond .ne 5, 3)) ∧ (decode cX12_aRule 248 = .ok (.iconst 0, 1)) ∧ (decode cX12_aRule 249 = .ok (.ireturn, 1)) ∧ (decode cX12_aRule 250 = .ok (.aload_n 0, 1)) ∧ (decode cX12_aRule 251 = .ok (.bipush 59, 2)) ∧ (decode cX12_aRule 253 = .ok (.invokevirtual 202, 3)) ∧ (decode cX12_aRule 256 = .ok (.ifCond .eq 50, 3)) ∧ (decode cX12_aRule 259 = .ok (.aload_n 0, 1)) ∧ (decode cX12_aRule 260 = .ok (.sipush 1088, 3)) ∧ (decode cX12_aRule 263 = .ok (.iload_n 1, 1)) ∧ (decode cX12_aRule 264 = .ok (.iload_n 3, 1)) ∧ (decode cX12_aRule 265 = .ok (.iload 5, 2)) := by decide +kernel
theorem dX12_aRule_245 : decode cX12_aRule 245 = .ok (.ifCond .ne 5, 3) := dGR_26_c_856.1
theorem dX12_aRule_248 : decode cX12_aRule 248 = .ok (.iconst 0, 1) := dGR_26_c_856.2.1
theorem dX12_aRule_249 : decode cX12_aRule 249 = .ok (.ireturn, 1) := dGR_26_c_856.2.2.1
theorem dX12_aRule_250 : decode cX12_aRule 250 = .ok (.aload_n 0, 1) := dGR_26_c_856.2.2.2.1
theorem dX12_aRule_251 : decode cX12_aRule 251 = .ok (.bipush 59, 2) := dGR_26_c_856.2.2.2.2.1
theorem dX12_aRule_253 : decode cX12_aRule 253 = .ok (.invokevirtual 202, 3) := dGR_26_c_856.2.2.2.2.2.1
theorem dX12_aRule_256 : decode cX12_aRule 256 = .ok (.ifCond .eq 50, 3) := dGR_26_c_856.2.2.2.2.2.2.1
theorem dX12_aRule_259 : decode cX12_aRule 259 = .ok (.aload_n 0, 1) := dGR_26_c_856.2.2.2.2.2.2.2.1
theorem dX12_aRule_260 : decode cX12_aRule 260 = .ok (.sipush 1088, 3) := dGR_26_c_856.2.2.2.2.2.2.2.2.1
theorem dX12_aRule_263 : decode cX12_aRule 263 = .ok (.iload_n 1, 1) := dGR_26_c_856.2.2.2.2.2.2.2.2.2.1
theorem dX12_aRule_264 : decode cX12_aRule 264 = .ok (.iload_n 3, 1) := dGR_26_c_856.2.2.2.2.2.2.2.2.2.2.1
theorem dX12_aRule_265 : decode cX12_aRule 265 = .ok (.iload 5, 2) := dGR_26_c_856.2.2.2.2.2.2.2.2.2.2.2
set_option maxRecDepth 100000 in
theorem dGR_26_c_857 : (decode cX12_aRule 267 = .ok (.aload_n 0, 1)) ∧ (decode cX12_aRule 268 = .ok (.getfield 7, 3)) ∧ (decode cX12_aRule 271 = .ok (.iload 4, 2)) ∧ (decode cX12_aRule 273 = .ok (.iconst 1, 1)) ∧ (decode cX12_aRule 274 = .ok (.iadd, 1)) ∧ (decode cX12_aRule 275 = .ok (.iaload, 1)) ∧ (decode cX12_aRule 276 = .ok (.aload_n 0, 1)) ∧ (decode cX12_aRule 277 = .ok (.getfield 7, 3)) ∧ (decode cX12_aRule 280 = .ok (.iload 4, 2)) ∧ (decode cX12_aRule 282 = .ok (.iconst 2, 1)) ∧ (decode cX12_aRule 283 = .ok (.iadd, 1)) ∧ (decode cX12_aRule 284 = .ok (.iaload, 1)) := by decide +kernel
theorem dX12_aRule_267 : decode cX12_aRule 267 = .ok (.aload_n 0, 1) := dGR_26_c_857.1
theorem dX12_aRule_268 : decode cX12_aRule 268 = .ok (.getfield 7, 3) := dGR_26_c_857.2.1
theorem dX12_aRule_271 : decode cX12_aRule 271 = .ok (.iload 4, 2) := dGR_26_c_857.2.2.1
theorem dX12_aRule_273 : decode cX12_aRule 273 = .ok (.iconst 1, 1) := dGR_26_c_857.2.2.2.1
theorem dX12_aRule_274 : decode cX12_aRule 274 = .ok (.iadd, 1) := dGR_26_c_857.2.2.2.2.1
theorem dX12_aRule_275 : decode cX12_aRule 275 = .ok (.iaload, 1) := dGR_26_c_857.2.2.2.2.2.1
theorem dX12_aRule_276 : decode cX12_aRule 276 = .ok (.aload_n 0, 1) := dGR_26_c_857.2.2.2.2.2.2.1
theorem dX12_aRule_277 : decode cX12_aRule 277 = .ok (.getfield 7, 3) := dGR_26_c_857.2.2.2.2.2.2.2.1
theorem dX12_aRule_280 : decode cX12_aRule 280 = .ok (.iload 4, 2) := dGR_26_c_857.2.2.2.2.2.2.2.2.1
theorem dX12_aRule_282 : decode cX12_aRule 282 = .ok (.iconst 2, 1) := dGR_26_c_857.2.2.2.2.2.2.2.2.2.1
theorem dX12_aRule_283 : decode cX12_aRule 283 = .ok (.iadd, 1) := dGR_26_c_857.2.2.2.2.2.2.2.2.2.2.1
theorem dX12_aRule_284 : decode cX12_aRule 284 = .ok (.iaload, 1) := dGR_26_c_857.2.2.2.2.2.2.2.2.2.2.2
set_option maxRecDepth 100000 in
theorem dGR_26_c_858 : (decode cX12_aRule 285 = .ok (.aload_n 0, 1)) ∧ (decode cX12_aRule 286 = .ok (.getfield 7, 3)) ∧ (decode cX12_aRule 289 = .ok (.iload 4, 2)) ∧ (decode cX12_aRule 291 = .ok (.iconst 3, 1)) ∧ (decode cX12_aRule 292 = .ok (.iadd, 1)) ∧ (decode cX12_aRule 293 = .ok (.iaload, 1)) ∧ (decode cX12_aRule 294 = .ok (.invokevirtual 253, 3)) ∧ (decode cX12_aRule 297 = .ok (.ifCond .eq 9, 3)) ∧ (decode cX12_aRule 300 = .ok (.aload_n 0, 1)) ∧ (decode cX12_aRule 301 = .ok (.iconst 5, 1)) ∧ (decode cX12_aRule 302 = .ok (.invokevirtual 205, 3)) ∧ (decode cX12_aRule 305 = .ok (.ireturn, 1)) := by decide +kernel
theorem dX12_aRule_285 : decode cX12_aRule 285 = .ok (.aload_n 0, 1) := dGR_26_c_858.1
theorem dX12_aRule_286 : decode cX12_aRule 286 = .ok (.getfield 7, 3) := dGR_26_c_858.2.1
theorem dX12_aRule_289 : decode cX12_aRule 289 = .ok (.iload 4, 2) := dGR_26_c_858.2.2.1
theorem dX12_aRule_291 : decode cX12_aRule 291 = .ok (.iconst 3, 1) := dGR_26_c_858.2.2.2.1
theorem dX12_aRule_292 : decode cX12_aRule 292 = .ok (.iadd, 1) := dGR_26_c_858.2.2.2.2.1
theorem dX12_aRule_293 : decode cX12_aRule 293 = .ok (.iaload, 1) := dGR_26_c_858.2.2.2.2.2.1
theorem dX12_aRule_294 : decode cX12_aRule 294 = .ok (.invokevirtual 253, 3) := dGR_26_c_858.2.2.2.2.2.2.1
theorem dX12_aRule_297 : decode cX12_aRule 297 = .ok (.ifCond .eq 9, 3) := dGR_26_c_858.2.2.2.2.2.2.2.1
theorem dX12_aRule_300 : decode cX12_aRule 300 = .ok (.aload_n 0, 1) := dGR_26_c_858.2.2.2.2.2.2.2.2.1
theorem dX12_aRule_301 : decode cX12_aRule 301 = .ok (.iconst 5, 1) := dGR_26_c_858.2.2.2.2.2.2.2.2.2.1
theorem dX12_aRule_302 : decode cX12_aRule 302 = .ok (.invokevirtual 205, 3) := dGR_26_c_858.2.2.2.2.2.2.2.2.2.2.1
theorem dX12_aRule_305 : decode cX12_aRule 305 = .ok (.ireturn, 1) := dGR_26_c_858.2.2.2.2.2.2.2.2.2.2.2
set_option maxRecDepth 100000 in
theorem dGR_26_c_859 : (decode cX12_aRule 306 = .ok (.aload_n 0, 1)) ∧ (decode cX12_aRule 307 = .ok (.getfield 7, 3)) ∧ (decode cX12_aRule 310 = .ok (.iload_n 2, 1)) ∧ (decode cX12_aRule 311 = .ok (.iconst 4, 1)) ∧ (decode cX12_aRule 312 = .ok (.iadd, 1)) ∧ (decode cX12_aRule 313 = .ok (.dup2, 1)) ∧ (decode cX12_aRule 314 = .ok (.iaload, 1)) ∧ (decode cX12_aRule 315 = .ok (.iconst 1, 1)) ∧ (decode cX12_aRule 316 = .ok (.iadd, 1)) ∧ (decode cX12_aRule 317 = .ok (.iastore, 1)) ∧ (decode cX12_aRule 318 = .ok (.iconst 1, 1)) ∧ (decode cX12_aRule 319 = .ok (.ireturn, 1)) := by decide +kernel
theorem dX12_aRule_306 : decode cX12_aRule 306 = .ok (.aload_n 0, 1) := dGR_26_c_859.1
theorem dX12_aRule_307 : decode cX12_aRule 307 = .ok (.getfield 7, 3) := dGR_26_c_859.2.1
theorem dX12_aRule_310 : decode cX12_aRule 310 = .ok (.iload_n 2, 1) := dGR_26_c_859.2.2.1
theorem dX12_aRule_311 : decode cX12_aRule 311 = .ok (.iconst 4, 1) := dGR_26_c_859.2.2.2.1
theorem dX12_aRule_312 : decode cX12_aRule 312 = .ok (.iadd, 1) := dGR_26_c_859.2.2.2.2.1
theorem dX12_aRule_313 : decode cX12_aRule 313 = .ok (.dup2, 1) := dGR_26_c_859.2.2.2.2.2.1
theorem dX12_aRule_314 : decode cX12_aRule 314 = .ok (.iaload, 1) := dGR_26_c_859.2.2.2.2.2.2.1
theorem dX12_aRule_315 : decode cX12_aRule 315 = .ok (.iconst 1, 1) := dGR_26_c_859.2.2.2.2.2.2.2.1
theorem dX12_aRule_316 : decode cX12_aRule 316 = .ok (.iadd, 1) := dGR_26_c_859.2.2.2.2.2.2.2.2.1
theorem dX12_aRule_317 : decode cX12_aRule 317 = .ok (.iastore, 1) := dGR_26_c_859.2.2.2.2.2.2.2.2.2.1
theorem dX12_aRule_318 : decode cX12_aRule 318 = .ok (.iconst 1, 1) := dGR_26_c_859.2.2.2.2.2.2.2.2.2.2.1
theorem dX12_aRule_319 : decode cX12_aRule 319 = .ok (.ireturn, 1) := dGR_26_c_859.2.2.2.2.2.2.2.2.2.2.2
set_option maxRecDepth 100000 in
theorem dGR_26_c_860 : (decode cX12_checkerPart 0 = .ok (.aload_n 0, 1)) ∧ (decode cX12_checkerPart 1 = .ok (.ldc 219, 2)) ∧ (decode cX12_checkerPart 3 = .ok (.invokevirtual 208, 3)) ∧ (decode cX12_checkerPart 6 = .ok (.istore_n 1, 1)) ∧ (decode cX12_checkerPart 7 = .ok (.aload_n 0, 1)) ∧ (decode cX12_checkerPart 8 = .ok (.getfield 7, 3)) ∧ (decode cX12_checkerPart 11 = .ok (.sipush 1091, 3)) ∧ (decode cX12_checkerPart 14 = .ok (.iaload, 1)) ∧ (decode cX12_checkerPart 15 = .ok (.iconst 1, 1)) ∧ (decode cX12_checkerPart 16 = .ok (.isub, 1)) ∧ (decode cX12_checkerPart 17 = .ok (.istore_n 2, 1)) ∧ (decode cX12_checkerPart 18 = .ok (.iload_n 1, 1)) := by decide +kernel
theorem dX12_checkerPart_0 : decode cX12_checkerPart 0 = .ok (.aload_n 0, 1) := dGR_26_c_860.1
theorem dX12_checkerPart_1 : decode cX12_checkerPart 1 = .ok (.ldc 219, 2) := dGR_26_c_860.2.1
theorem dX12_checkerPart_3 : decode cX12_checkerPart 3 = .ok (.invokevirtual 208, 3) := dGR_26_c_860.2.2.1
theorem dX12_checkerPart_6 : decode cX12_checkerPart 6 = .ok (.istore_n 1, 1) := dGR_26_c_860.2.2.2.1
theorem dX12_checkerPart_7 : decode cX12_checkerPart 7 = .ok (.aload_n 0, 1) := dGR_26_c_860.2.2.2.2.1
theorem dX12_checkerPart_8 : decode cX12_checkerPart 8 = .ok (.getfield 7, 3) := dGR_26_c_860.2.2.2.2.2.1
theorem dX12_checkerPart_11 : decode cX12_checkerPart 11 = .ok (.sipush 1091, 3) := dGR_26_c_860.2.2.2.2.2.2.1
theorem dX12_checkerPart_14 : decode cX12_checkerPart 14 = .ok (.iaload, 1) := dGR_26_c_860.2.2.2.2.2.2.2.1
theorem dX12_checkerPart_15 : decode cX12_checkerPart 15 = .ok (.iconst 1, 1) := dGR_26_c_860.2.2.2.2.2.2.2.2.1
theorem dX12_checkerPart_16 : decode cX12_checkerPart 16 = .ok (.isub, 1) := dGR_26_c_860.2.2.2.2.2.2.2.2.2.1
theorem dX12_checkerPart_17 : decode cX12_checkerPart 17 = .ok (.istore_n 2, 1) := dGR_26_c_860.2.2.2.2.2.2.2.2.2.2.1
theorem dX12_checkerPart_18 : decode cX12_checkerPart 18 = .ok (.iload_n 1, 1) := dGR_26_c_860.2.2.2.2.2.2.2.2.2.2.2
set_option maxRecDepth 100000 in
theorem dGR_26_c_861 : (decode cX12_checkerPart 19 = .ok (.ifCond .lt 19, 3)) ∧ (decode cX12_checkerPart 22 = .ok (.iload_n 1, 1)) ∧ (decode cX12_checkerPart 23 = .ok (.bipush 6, 2)) ∧ (decode cX12_checkerPart 25 = .ok (.if_icmp .gt 13, 3)) ∧ (decode cX12_checkerPart 28 = .ok (.iload_n 1, 1)) ∧ (decode cX12_checkerPart 29 = .ok (.iconst 3, 1)) ∧ (decode cX12_checkerPart 30 = .ok (.if_icmp .le 14, 3)) ∧ (decode cX12_checkerPart 33 = .ok (.iload_n 2, 1)) ∧ (decode cX12_checkerPart 34 = .ok (.iconst (-1), 1)) ∧ (decode cX12_checkerPart 35 = .ok (.if_icmp .ne 9, 3)) ∧ (decode cX12_checkerPart 38 = .ok (.aload_n 0, 1)) ∧ (decode cX12_checkerPart 39 = .ok (.iconst 2, 1)) := by decide +kernel
theorem dX12_checkerPart_19 : decode cX12_checkerPart 19 = .ok (.ifCond .lt 19, 3) := dGR_26_c_861.1
theorem dX12_checkerPart_22 : decode cX12_checkerPart 22 = .ok (.iload_n 1, 1) := dGR_26_c_861.2.1
theorem dX12_checkerPart_23 : decode cX12_checkerPart 23 = .ok (.bipush 6, 2) := dGR_26_c_861.2.2.1
theorem dX12_checkerPart_25 : decode cX12_checkerPart 25 = .ok (.if_icmp .gt 13, 3) := dGR_26_c_861.2.2.2.1
theorem dX12_checkerPart_28 : decode cX12_checkerPart 28 = .ok (.iload_n 1, 1) := dGR_26_c_861.2.2.2.2.1
theorem dX12_checkerPart_29 : decode cX12_checkerPart 29 = .ok (.iconst 3, 1) := dGR_26_c_861.2.2.2.2.2.1
theorem dX12_checkerPart_30 : decode cX12_checkerPart 30 = .ok (.if_icmp .le 14, 3) := dGR_26_c_861.2.2.2.2.2.2.1
theorem dX12_checkerPart_33 : decode cX12_checkerPart 33 = .ok (.iload_n 2, 1) := dGR_26_c_861.2.2.2.2.2.2.2.1
theorem dX12_checkerPart_34 : decode cX12_checkerPart 34 = .ok (.iconst (-1), 1) := dGR_26_c_861.2.2.2.2.2.2.2.2.1
theorem dX12_checkerPart_35 : decode cX12_checkerPart 35 = .ok (.if_icmp .ne 9, 3) := dGR_26_c_861.2.2.2.2.2.2.2.2.2.1
theorem dX12_checkerPart_38 : decode cX12_checkerPart 38 = .ok (.aload_n 0, 1) := dGR_26_c_861.2.2.2.2.2.2.2.2.2.2.1
theorem dX12_checkerPart_39 : decode cX12_checkerPart 39 = .ok (.iconst 2, 1) := dGR_26_c_861.2.2.2.2.2.2.2.2.2.2.2
set_option maxRecDepth 100000 in
theorem dGR_26_c_862 : (decode cX12_checkerPart 40 = .ok (.invokevirtual 205, 3)) ∧ (decode cX12_checkerPart 43 = .ok (.ireturn, 1)) ∧ (decode cX12_checkerPart 44 = .ok (.iload_n 1, 1)) ∧ (decode cX12_checkerPart 45 = .ok (.tableswitch 152 3 6 #[31, 53, 91, 129], 31)) ∧ (decode cX12_checkerPart 76 = .ok (.aload_n 0, 1)) ∧ (decode cX12_checkerPart 77 = .ok (.invokevirtual 257, 3)) ∧ (decode cX12_checkerPart 80 = .ok (.ifCond .eq 16, 3)) ∧ (decode cX12_checkerPart 83 = .ok (.aload_n 0, 1)) ∧ (decode cX12_checkerPart 84 = .ok (.bipush 59, 2)) ∧ (decode cX12_checkerPart 86 = .ok (.invokevirtual 261, 3)) ∧ (decode cX12_checkerPart 89 = .ok (.ifCond .eq 7, 3)) ∧ (decode cX12_checkerPart 92 = .ok (.iconst 1, 1)) := by decide +kernel
theorem dX12_checkerPart_40 : decode cX12_checkerPart 40 = .ok (.invokevirtual 205, 3) := dGR_26_c_862.1
theorem dX12_checkerPart_43 : decode cX12_checkerPart 43 = .ok (.ireturn, 1) := dGR_26_c_862.2.1
theorem dX12_checkerPart_44 : decode cX12_checkerPart 44 = .ok (.iload_n 1, 1) := dGR_26_c_862.2.2.1
theorem dX12_checkerPart_45 : decode cX12_checkerPart 45 = .ok (.tableswitch 152 3 6 #[31, 53, 91, 129], 31) := dGR_26_c_862.2.2.2.1
theorem dX12_checkerPart_76 : decode cX12_checkerPart 76 = .ok (.aload_n 0, 1) := dGR_26_c_862.2.2.2.2.1
theorem dX12_checkerPart_77 : decode cX12_checkerPart 77 = .ok (.invokevirtual 257, 3) := dGR_26_c_862.2.2.2.2.2.1
theorem dX12_checkerPart_80 : decode cX12_checkerPart 80 = .ok (.ifCond .eq 16, 3) := dGR_26_c_862.2.2.2.2.2.2.1
theorem dX12_checkerPart_83 : decode cX12_checkerPart 83 = .ok (.aload_n 0, 1) := dGR_26_c_862.2.2.2.2.2.2.2.1
theorem dX12_checkerPart_84 : decode cX12_checkerPart 84 = .ok (.bipush 59, 2) := dGR_26_c_862.2.2.2.2.2.2.2.2.1
theorem dX12_checkerPart_86 : decode cX12_checkerPart 86 = .ok (.invokevirtual 261, 3) := dGR_26_c_862.2.2.2.2.2.2.2.2.2.1
theorem dX12_checkerPart_89 : decode cX12_checkerPart 89 = .ok (.ifCond .eq 7, 3) := dGR_26_c_862.2.2.2.2.2.2.2.2.2.2.1
theorem dX12_checkerPart_92 : decode cX12_checkerPart 92 = .ok (.iconst 1, 1) := dGR_26_c_862.2.2.2.2.2.2.2.2.2.2.2
set_option maxRecDepth 100000 in
theorem dGR_26_c_863 : (decode cX12_checkerPart 93 = .ok (.goto 4, 3)) ∧ (decode cX12_checkerPart 96 = .ok (.iconst 0, 1)) ∧ (decode cX12_checkerPart 97 = .ok (.ireturn, 1)) ∧ (decode cX12_checkerPart 98 = .ok (.aload_n 0, 1)) ∧ (decode cX12_checkerPart 99 = .ok (.sipush 1088, 3)) ∧ (decode cX12_checkerPart 102 = .ok (.iload_n 2, 1)) ∧ (decode cX12_checkerPart 103 = .ok (.invokestatic 216, 3)) ∧ (decode cX12_checkerPart 106 = .ok (.sipush 1088, 3)) ∧ (decode cX12_checkerPart 109 = .ok (.iload_n 2, 1)) ∧ (decode cX12_checkerPart 110 = .ok (.invokestatic 216, 3)) ∧ (decode cX12_checkerPart 113 = .ok (.iconst 2, 1)) ∧ (decode cX12_checkerPart 114 = .ok (.iadd, 1)) := by decide +kernel
theorem dX12_checkerPart_93 : decode cX12_checkerPart 93 = .ok (.goto 4, 3) := dGR_26_c_863.1
theorem dX12_checkerPart_96 : decode cX12_checkerPart 96 = .ok (.iconst 0, 1) := dGR_26_c_863.2.1
theorem dX12_checkerPart_97 : decode cX12_checkerPart 97 = .ok (.ireturn, 1) := dGR_26_c_863.2.2.1
theorem dX12_checkerPart_98 : decode cX12_checkerPart 98 = .ok (.aload_n 0, 1) := dGR_26_c_863.2.2.2.1
theorem dX12_checkerPart_99 : decode cX12_checkerPart 99 = .ok (.sipush 1088, 3) := dGR_26_c_863.2.2.2.2.1
theorem dX12_checkerPart_102 : decode cX12_checkerPart 102 = .ok (.iload_n 2, 1) := dGR_26_c_863.2.2.2.2.2.1
theorem dX12_checkerPart_103 : decode cX12_checkerPart 103 = .ok (.invokestatic 216, 3) := dGR_26_c_863.2.2.2.2.2.2.1
theorem dX12_checkerPart_106 : decode cX12_checkerPart 106 = .ok (.sipush 1088, 3) := dGR_26_c_863.2.2.2.2.2.2.2.1
theorem dX12_checkerPart_109 : decode cX12_checkerPart 109 = .ok (.iload_n 2, 1) := dGR_26_c_863.2.2.2.2.2.2.2.2.1
theorem dX12_checkerPart_110 : decode cX12_checkerPart 110 = .ok (.invokestatic 216, 3) := dGR_26_c_863.2.2.2.2.2.2.2.2.2.1
theorem dX12_checkerPart_113 : decode cX12_checkerPart 113 = .ok (.iconst 2, 1) := dGR_26_c_863.2.2.2.2.2.2.2.2.2.2.1
theorem dX12_checkerPart_114 : decode cX12_checkerPart 114 = .ok (.iadd, 1) := dGR_26_c_863.2.2.2.2.2.2.2.2.2.2.2
set_option maxRecDepth 100000 in
theorem dGR_26_c_864 : (decode cX12_checkerPart 115 = .ok (.invokevirtual 264, 3)) ∧ (decode cX12_checkerPart 118 = .ok (.ifCond .eq 16, 3)) ∧ (decode cX12_checkerPart 121 = .ok (.aload_n 0, 1)) ∧ (decode cX12_checkerPart 122 = .ok (.bipush 59, 2)) ∧ (decode cX12_checkerPart 124 = .ok (.invokevirtual 261, 3)) ∧ (decode cX12_checkerPart 127 = .ok (.ifCond .eq 7, 3)) ∧ (decode cX12_checkerPart 130 = .ok (.iconst 1, 1)) ∧ (decode cX12_checkerPart 131 = .ok (.goto 4, 3)) ∧ (decode cX12_checkerPart 134 = .ok (.iconst 0, 1)) ∧ (decode cX12_checkerPart 135 = .ok (.ireturn, 1)) ∧ (decode cX12_checkerPart 136 = .ok (.aload_n 0, 1)) ∧ (decode cX12_checkerPart 137 = .ok (.sipush 1088, 3)) := by decide +kernel
theorem dX12_checkerPart_115 : decode cX12_checkerPart 115 = .ok (.invokevirtual 264, 3) := dGR_26_c_864.1
theorem dX12_checkerPart_118 : decode cX12_checkerPart 118 = .ok (.ifCond .eq 16, 3) := dGR_26_c_864.2.1
theorem dX12_checkerPart_121 : decode cX12_checkerPart 121 = .ok (.aload_n 0, 1) := dGR_26_c_864.2.2.1
theorem dX12_checkerPart_122 : decode cX12_checkerPart 122 = .ok (.bipush 59, 2) := dGR_26_c_864.2.2.2.1
theorem dX12_checkerPart_124 : decode cX12_checkerPart 124 = .ok (.invokevirtual 261, 3) := dGR_26_c_864.2.2.2.2.1
theorem dX12_checkerPart_127 : decode cX12_checkerPart 127 = .ok (.ifCond .eq 7, 3) := dGR_26_c_864.2.2.2.2.2.1
theorem dX12_checkerPart_130 : decode cX12_checkerPart 130 = .ok (.iconst 1, 1) := dGR_26_c_864.2.2.2.2.2.2.1
theorem dX12_checkerPart_131 : decode cX12_checkerPart 131 = .ok (.goto 4, 3) := dGR_26_c_864.2.2.2.2.2.2.2.1
theorem dX12_checkerPart_134 : decode cX12_checkerPart 134 = .ok (.iconst 0, 1) := dGR_26_c_864.2.2.2.2.2.2.2.2.1
theorem dX12_checkerPart_135 : decode cX12_checkerPart 135 = .ok (.ireturn, 1) := dGR_26_c_864.2.2.2.2.2.2.2.2.2.1
theorem dX12_checkerPart_136 : decode cX12_checkerPart 136 = .ok (.aload_n 0, 1) := dGR_26_c_864.2.2.2.2.2.2.2.2.2.2.1
theorem dX12_checkerPart_137 : decode cX12_checkerPart 137 = .ok (.sipush 1088, 3) := dGR_26_c_864.2.2.2.2.2.2.2.2.2.2.2
set_option maxRecDepth 100000 in
theorem dGR_26_c_865 : (decode cX12_checkerPart 140 = .ok (.iload_n 2, 1)) ∧ (decode cX12_checkerPart 141 = .ok (.invokestatic 216, 3)) ∧ (decode cX12_checkerPart 144 = .ok (.sipush 1088, 3)) ∧ (decode cX12_checkerPart 147 = .ok (.iload_n 2, 1)) ∧ (decode cX12_checkerPart 148 = .ok (.invokestatic 216, 3)) ∧ (decode cX12_checkerPart 151 = .ok (.iconst 3, 1)) ∧ (decode cX12_checkerPart 152 = .ok (.iadd, 1)) ∧ (decode cX12_checkerPart 153 = .ok (.invokevirtual 264, 3)) ∧ (decode cX12_checkerPart 156 = .ok (.ifCond .eq 16, 3)) ∧ (decode cX12_checkerPart 159 = .ok (.aload_n 0, 1)) ∧ (decode cX12_checkerPart 160 = .ok (.bipush 59, 2)) ∧ (decode cX12_checkerPart 162 = .ok (.invokevirtual 261, 3)) := by decide +kernel
theorem dX12_checkerPart_140 : decode cX12_checkerPart 140 = .ok (.iload_n 2, 1) := dGR_26_c_865.1
theorem dX12_checkerPart_141 : decode cX12_checkerPart 141 = .ok (.invokestatic 216, 3) := dGR_26_c_865.2.1
theorem dX12_checkerPart_144 : decode cX12_checkerPart 144 = .ok (.sipush 1088, 3) := dGR_26_c_865.2.2.1
theorem dX12_checkerPart_147 : decode cX12_checkerPart 147 = .ok (.iload_n 2, 1) := dGR_26_c_865.2.2.2.1
theorem dX12_checkerPart_148 : decode cX12_checkerPart 148 = .ok (.invokestatic 216, 3) := dGR_26_c_865.2.2.2.2.1
theorem dX12_checkerPart_151 : decode cX12_checkerPart 151 = .ok (.iconst 3, 1) := dGR_26_c_865.2.2.2.2.2.1
theorem dX12_checkerPart_152 : decode cX12_checkerPart 152 = .ok (.iadd, 1) := dGR_26_c_865.2.2.2.2.2.2.1
theorem dX12_checkerPart_153 : decode cX12_checkerPart 153 = .ok (.invokevirtual 264, 3) := dGR_26_c_865.2.2.2.2.2.2.2.1
theorem dX12_checkerPart_156 : decode cX12_checkerPart 156 = .ok (.ifCond .eq 16, 3) := dGR_26_c_865.2.2.2.2.2.2.2.2.1
theorem dX12_checkerPart_159 : decode cX12_checkerPart 159 = .ok (.aload_n 0, 1) := dGR_26_c_865.2.2.2.2.2.2.2.2.2.1
theorem dX12_checkerPart_160 : decode cX12_checkerPart 160 = .ok (.bipush 59, 2) := dGR_26_c_865.2.2.2.2.2.2.2.2.2.2.1
theorem dX12_checkerPart_162 : decode cX12_checkerPart 162 = .ok (.invokevirtual 261, 3) := dGR_26_c_865.2.2.2.2.2.2.2.2.2.2.2
set_option maxRecDepth 100000 in
theorem dGR_26_c_866 : (decode cX12_checkerPart 165 = .ok (.ifCond .eq 7, 3)) ∧ (decode cX12_checkerPart 168 = .ok (.iconst 1, 1)) ∧ (decode cX12_checkerPart 169 = .ok (.goto 4, 3)) ∧ (decode cX12_checkerPart 172 = .ok (.iconst 0, 1)) ∧ (decode cX12_checkerPart 173 = .ok (.ireturn, 1)) ∧ (decode cX12_checkerPart 174 = .ok (.aload_n 0, 1)) ∧ (decode cX12_checkerPart 175 = .ok (.iload_n 2, 1)) ∧ (decode cX12_checkerPart 176 = .ok (.invokevirtual 267, 3)) ∧ (decode cX12_checkerPart 179 = .ok (.ifCond .eq 16, 3)) ∧ (decode cX12_checkerPart 182 = .ok (.aload_n 0, 1)) ∧ (decode cX12_checkerPart 183 = .ok (.bipush 59, 2)) ∧ (decode cX12_checkerPart 185 = .ok (.invokevirtual 261, 3)) := by decide +kernel
theorem dX12_checkerPart_165 : decode cX12_checkerPart 165 = .ok (.ifCond .eq 7, 3) := dGR_26_c_866.1
theorem dX12_checkerPart_168 : decode cX12_checkerPart 168 = .ok (.iconst 1, 1) := dGR_26_c_866.2.1
theorem dX12_checkerPart_169 : decode cX12_checkerPart 169 = .ok (.goto 4, 3) := dGR_26_c_866.2.2.1
theorem dX12_checkerPart_172 : decode cX12_checkerPart 172 = .ok (.iconst 0, 1) := dGR_26_c_866.2.2.2.1
theorem dX12_checkerPart_173 : decode cX12_checkerPart 173 = .ok (.ireturn, 1) := dGR_26_c_866.2.2.2.2.1
theorem dX12_checkerPart_174 : decode cX12_checkerPart 174 = .ok (.aload_n 0, 1) := dGR_26_c_866.2.2.2.2.2.1
theorem dX12_checkerPart_175 : decode cX12_checkerPart 175 = .ok (.iload_n 2, 1) := dGR_26_c_866.2.2.2.2.2.2.1
theorem dX12_checkerPart_176 : decode cX12_checkerPart 176 = .ok (.invokevirtual 267, 3) := dGR_26_c_866.2.2.2.2.2.2.2.1
theorem dX12_checkerPart_179 : decode cX12_checkerPart 179 = .ok (.ifCond .eq 16, 3) := dGR_26_c_866.2.2.2.2.2.2.2.2.1
theorem dX12_checkerPart_182 : decode cX12_checkerPart 182 = .ok (.aload_n 0, 1) := dGR_26_c_866.2.2.2.2.2.2.2.2.2.1
theorem dX12_checkerPart_183 : decode cX12_checkerPart 183 = .ok (.bipush 59, 2) := dGR_26_c_866.2.2.2.2.2.2.2.2.2.2.1
theorem dX12_checkerPart_185 : decode cX12_checkerPart 185 = .ok (.invokevirtual 261, 3) := dGR_26_c_866.2.2.2.2.2.2.2.2.2.2.2
set_option maxRecDepth 100000 in
theorem dGR_26_c_867 : (decode cX12_checkerPart 188 = .ok (.ifCond .eq 7, 3)) ∧ (decode cX12_checkerPart 191 = .ok (.iconst 1, 1)) ∧ (decode cX12_checkerPart 192 = .ok (.goto 4, 3)) ∧ (decode cX12_checkerPart 195 = .ok (.iconst 0, 1)) ∧ (decode cX12_checkerPart 196 = .ok (.ireturn, 1)) ∧ (decode cX12_checkerPart 197 = .ok (.aload_n 0, 1)) ∧ (decode cX12_checkerPart 198 = .ok (.iload_n 1, 1)) ∧ (decode cX12_checkerPart 199 = .ok (.invokevirtual 270, 3)) ∧ (decode cX12_checkerPart 202 = .ok (.ifCond .eq 16, 3)) ∧ (decode cX12_checkerPart 205 = .ok (.aload_n 0, 1)) ∧ (decode cX12_checkerPart 206 = .ok (.bipush 59, 2)) ∧ (decode cX12_checkerPart 208 = .ok (.invokevirtual 261, 3)) := by decide +kernel
theorem dX12_checkerPart_188 : decode cX12_checkerPart 188 = .ok (.ifCond .eq 7, 3) := dGR_26_c_867.1
theorem dX12_checkerPart_191 : decode cX12_checkerPart 191 = .ok (.iconst 1, 1) := dGR_26_c_867.2.1
theorem dX12_checkerPart_192 : decode cX12_checkerPart 192 = .ok (.goto 4, 3) := dGR_26_c_867.2.2.1
theorem dX12_checkerPart_195 : decode cX12_checkerPart 195 = .ok (.iconst 0, 1) := dGR_26_c_867.2.2.2.1
theorem dX12_checkerPart_196 : decode cX12_checkerPart 196 = .ok (.ireturn, 1) := dGR_26_c_867.2.2.2.2.1
theorem dX12_checkerPart_197 : decode cX12_checkerPart 197 = .ok (.aload_n 0, 1) := dGR_26_c_867.2.2.2.2.2.1
theorem dX12_checkerPart_198 : decode cX12_checkerPart 198 = .ok (.iload_n 1, 1) := dGR_26_c_867.2.2.2.2.2.2.1
theorem dX12_checkerPart_199 : decode cX12_checkerPart 199 = .ok (.invokevirtual 270, 3) := dGR_26_c_867.2.2.2.2.2.2.2.1
theorem dX12_checkerPart_202 : decode cX12_checkerPart 202 = .ok (.ifCond .eq 16, 3) := dGR_26_c_867.2.2.2.2.2.2.2.2.1
theorem dX12_checkerPart_205 : decode cX12_checkerPart 205 = .ok (.aload_n 0, 1) := dGR_26_c_867.2.2.2.2.2.2.2.2.2.1
theorem dX12_checkerPart_206 : decode cX12_checkerPart 206 = .ok (.bipush 59, 2) := dGR_26_c_867.2.2.2.2.2.2.2.2.2.2.1
theorem dX12_checkerPart_208 : decode cX12_checkerPart 208 = .ok (.invokevirtual 261, 3) := dGR_26_c_867.2.2.2.2.2.2.2.2.2.2.2
set_option maxRecDepth 100000 in
theorem dGR_26_c_868 : (decode cX12_checkerPart 211 = .ok (.ifCond .eq 7, 3)) ∧ (decode cX12_checkerPart 214 = .ok (.iconst 1, 1)) ∧ (decode cX12_checkerPart 215 = .ok (.goto 4, 3)) ∧ (decode cX12_checkerPart 218 = .ok (.iconst 0, 1)) ∧ (decode cX12_checkerPart 219 = .ok (.ireturn, 1)) := by decide +kernel
theorem dX12_checkerPart_211 : decode cX12_checkerPart 211 = .ok (.ifCond .eq 7, 3) := dGR_26_c_868.1
theorem dX12_checkerPart_214 : decode cX12_checkerPart 214 = .ok (.iconst 1, 1) := dGR_26_c_868.2.1
theorem dX12_checkerPart_215 : decode cX12_checkerPart 215 = .ok (.goto 4, 3) := dGR_26_c_868.2.2.1
theorem dX12_checkerPart_218 : decode cX12_checkerPart 218 = .ok (.iconst 0, 1) := dGR_26_c_868.2.2.2.1
theorem dX12_checkerPart_219 : decode cX12_checkerPart 219 = .ok (.ireturn, 1) := dGR_26_c_868.2.2.2.2
