theorem dX12_aRule_0 : decode cX12_aRule 0 = .ok (.sipush 1088, 3) := by decide +kernel
theorem dX12_aRule_3 : decode cX12_aRule 3 = .ok (.iload_n 1, 1) := by decide +kernel
theorem dX12_aRule_4 : decode cX12_aRule 4 = .ok (.invokestatic 216, 3) := by decide +kernel
theorem dX12_aRule_7 : decode cX12_aRule 7 = .ok (.istore_n 2, 1) := by decide +kernel
theorem dX12_aRule_8 : decode cX12_aRule 8 = .ok (.aload_n 0, 1) := by decide +kernel
theorem dX12_aRule_9 : decode cX12_aRule 9 = .ok (.getfield 7, 3) := by decide +kernel
theorem dX12_aRule_12 : decode cX12_aRule 12 = .ok (.iload_n 2, 1) := by decide +kernel
theorem dX12_aRule_13 : decode cX12_aRule 13 = .ok (.iconst 4, 1) := by decide +kernel
theorem dX12_aRule_14 : decode cX12_aRule 14 = .ok (.iadd, 1) := by decide +kernel
theorem dX12_aRule_15 : decode cX12_aRule 15 = .ok (.iaload, 1) := by decide +kernel
theorem dX12_aRule_16 : decode cX12_aRule 16 = .ok (.istore_n 3, 1) := by decide +kernel
theorem dX12_aRule_17 : decode cX12_aRule 17 = .ok (.iload_n 3, 1) := by decide +kernel
theorem dX12_aRule_18 : decode cX12_aRule 18 = .ok (.bipush 20, 2) := by decide +kernel
theorem dX12_aRule_20 : decode cX12_aRule 20 = .ok (.if_icmp .ne 10, 3) := by decide +kernel
theorem dX12_aRule_23 : decode cX12_aRule 23 = .ok (.aload_n 0, 1) := by decide +kernel
theorem dX12_aRule_24 : decode cX12_aRule 24 = .ok (.bipush 6, 2) := by decide +kernel
theorem dX12_aRule_26 : decode cX12_aRule 26 = .ok (.invokevirtual 205, 3) := by decide +kernel
theorem dX12_aRule_29 : decode cX12_aRule 29 = .ok (.ireturn, 1) := by decide +kernel
theorem dX12_aRule_30 : decode cX12_aRule 30 = .ok (.sipush 1088, 3) := by decide +kernel
theorem dX12_aRule_33 : decode cX12_aRule 33 = .ok (.iload_n 1, 1) := by decide +kernel
theorem dX12_aRule_34 : decode cX12_aRule 34 = .ok (.iload_n 3, 1) := by decide +kernel
theorem dX12_aRule_35 : decode cX12_aRule 35 = .ok (.invokestatic 243, 3) := by decide +kernel
theorem dX12_aRule_38 : decode cX12_aRule 38 = .ok (.istore 4, 2) := by decide +kernel
theorem dX12_aRule_40 : decode cX12_aRule 40 = .ok (.aload_n 0, 1) := by decide +kernel
theorem dX12_aRule_41 : decode cX12_aRule 41 = .ok (.invokevirtual 199, 3) := by decide +kernel
theorem dX12_aRule_44 : decode cX12_aRule 44 = .ok (.aload_n 0, 1) := by decide +kernel
theorem dX12_aRule_45 : decode cX12_aRule 45 = .ok (.ldc 219, 2) := by decide +kernel
theorem dX12_aRule_47 : decode cX12_aRule 47 = .ok (.invokevirtual 224, 3) := by decide +kernel
theorem dX12_aRule_50 : decode cX12_aRule 50 = .ok (.ifCond .ne 9, 3) := by decide +kernel
theorem dX12_aRule_53 : decode cX12_aRule 53 = .ok (.aload_n 0, 1) := by decide +kernel
theorem dX12_aRule_54 : decode cX12_aRule 54 = .ok (.iconst 2, 1) := by decide +kernel
theorem dX12_aRule_55 : decode cX12_aRule 55 = .ok (.invokevirtual 205, 3) := by decide +kernel
theorem dX12_aRule_58 : decode cX12_aRule 58 = .ok (.ireturn, 1) := by decide +kernel
theorem dX12_aRule_59 : decode cX12_aRule 59 = .ok (.aload_n 0, 1) := by decide +kernel
theorem dX12_aRule_60 : decode cX12_aRule 60 = .ok (.invokevirtual 228, 3) := by decide +kernel
theorem dX12_aRule_63 : decode cX12_aRule 63 = .ok (.istore 5, 2) := by decide +kernel
theorem dX12_aRule_65 : decode cX12_aRule 65 = .ok (.iload 5, 2) := by decide +kernel
theorem dX12_aRule_67 : decode cX12_aRule 67 = .ok (.iconst (-1), 1) := by decide +kernel
theorem dX12_aRule_68 : decode cX12_aRule 68 = .ok (.if_icmp .ne 9, 3) := by decide +kernel
theorem dX12_aRule_71 : decode cX12_aRule 71 = .ok (.aload_n 0, 1) := by decide +kernel
theorem dX12_aRule_72 : decode cX12_aRule 72 = .ok (.iconst 3, 1) := by decide +kernel
theorem dX12_aRule_73 : decode cX12_aRule 73 = .ok (.invokevirtual 205, 3) := by decide +kernel
theorem dX12_aRule_76 : decode cX12_aRule 76 = .ok (.ireturn, 1) := by decide +kernel
theorem dX12_aRule_77 : decode cX12_aRule 77 = .ok (.aload_n 0, 1) := by decide +kernel
theorem dX12_aRule_78 : decode cX12_aRule 78 = .ok (.invokevirtual 199, 3) := by decide +kernel
theorem dX12_aRule_81 : decode cX12_aRule 81 = .ok (.aload_n 0, 1) := by decide +kernel
theorem dX12_aRule_82 : decode cX12_aRule 82 = .ok (.iload 4, 2) := by decide +kernel
theorem dX12_aRule_84 : decode cX12_aRule 84 = .ok (.iconst 1, 1) := by decide +kernel
theorem dX12_aRule_85 : decode cX12_aRule 85 = .ok (.iadd, 1) := by decide +kernel
theorem dX12_aRule_86 : decode cX12_aRule 86 = .ok (.iconst 0, 1) := by decide +kernel
theorem dX12_aRule_87 : decode cX12_aRule 87 = .ok (.aload_n 0, 1) := by decide +kernel
theorem dX12_aRule_88 : decode cX12_aRule 88 = .ok (.getfield 7, 3) := by decide +kernel
theorem dX12_aRule_91 : decode cX12_aRule 91 = .ok (.iload_n 2, 1) := by decide +kernel
theorem dX12_aRule_92 : decode cX12_aRule 92 = .ok (.iaload, 1) := by decide +kernel
theorem dX12_aRule_93 : decode cX12_aRule 93 = .ok (.iconst 1, 1) := by decide +kernel
theorem dX12_aRule_94 : decode cX12_aRule 94 = .ok (.isub, 1) := by decide +kernel
theorem dX12_aRule_95 : decode cX12_aRule 95 = .ok (.invokevirtual 231, 3) := by decide +kernel
theorem dX12_aRule_98 : decode cX12_aRule 98 = .ok (.ifCond .eq 23, 3) := by decide +kernel
theorem dX12_aRule_101 : decode cX12_aRule 101 = .ok (.aload_n 0, 1) := by decide +kernel
theorem dX12_aRule_102 : decode cX12_aRule 102 = .ok (.iload 4, 2) := by decide +kernel
theorem dX12_aRule_104 : decode cX12_aRule 104 = .ok (.iconst 2, 1) := by decide +kernel
theorem dX12_aRule_105 : decode cX12_aRule 105 = .ok (.iadd, 1) := by decide +kernel
theorem dX12_aRule_106 : decode cX12_aRule 106 = .ok (.iconst 0, 1) := by decide +kernel
theorem dX12_aRule_107 : decode cX12_aRule 107 = .ok (.aload_n 0, 1) := by decide +kernel
theorem dX12_aRule_108 : decode cX12_aRule 108 = .ok (.getfield 7, 3) := by decide +kernel
theorem dX12_aRule_111 : decode cX12_aRule 111 = .ok (.iload_n 2, 1) := by decide +kernel
theorem dX12_aRule_112 : decode cX12_aRule 112 = .ok (.iaload, 1) := by decide +kernel
theorem dX12_aRule_113 : decode cX12_aRule 113 = .ok (.iconst 1, 1) := by decide +kernel
theorem dX12_aRule_114 : decode cX12_aRule 114 = .ok (.isub, 1) := by decide +kernel
theorem dX12_aRule_115 : decode cX12_aRule 115 = .ok (.invokevirtual 231, 3) := by decide +kernel
theorem dX12_aRule_118 : decode cX12_aRule 118 = .ok (.ifCond .ne 5, 3) := by decide +kernel
theorem dX12_aRule_121 : decode cX12_aRule 121 = .ok (.iconst 0, 1) := by decide +kernel
theorem dX12_aRule_122 : decode cX12_aRule 122 = .ok (.ireturn, 1) := by decide +kernel
theorem dX12_aRule_123 : decode cX12_aRule 123 = .ok (.aload_n 0, 1) := by decide +kernel
theorem dX12_aRule_124 : decode cX12_aRule 124 = .ok (.getfield 7, 3) := by decide +kernel
theorem dX12_aRule_127 : decode cX12_aRule 127 = .ok (.iload 4, 2) := by decide +kernel
theorem dX12_aRule_129 : decode cX12_aRule 129 = .ok (.iload 5, 2) := by decide +kernel
theorem dX12_aRule_131 : decode cX12_aRule 131 = .ok (.iastore, 1) := by decide +kernel
theorem dX12_aRule_132 : decode cX12_aRule 132 = .ok (.aload_n 0, 1) := by decide +kernel
theorem dX12_aRule_133 : decode cX12_aRule 133 = .ok (.getfield 7, 3) := by decide +kernel
theorem dX12_aRule_136 : decode cX12_aRule 136 = .ok (.iload 4, 2) := by decide +kernel
theorem dX12_aRule_138 : decode cX12_aRule 138 = .ok (.iconst 3, 1) := by decide +kernel
theorem dX12_aRule_139 : decode cX12_aRule 139 = .ok (.iadd, 1) := by decide +kernel
theorem dX12_aRule_140 : decode cX12_aRule 140 = .ok (.iconst (-1), 1) := by decide +kernel
theorem dX12_aRule_141 : decode cX12_aRule 141 = .ok (.iastore, 1) := by decide +kernel
theorem dX12_aRule_142 : decode cX12_aRule 142 = .ok (.aload_n 0, 1) := by decide +kernel
theorem dX12_aRule_143 : decode cX12_aRule 143 = .ok (.sipush 1088, 3) := by decide +kernel
theorem dX12_aRule_146 : decode cX12_aRule 146 = .ok (.iload 5, 2) := by decide +kernel
theorem dX12_aRule_148 : decode cX12_aRule 148 = .ok (.invokevirtual 247, 3) := by decide +kernel
theorem dX12_aRule_151 : decode cX12_aRule 151 = .ok (.istore 6, 2) := by decide +kernel
theorem dX12_aRule_153 : decode cX12_aRule 153 = .ok (.iload 6, 2) := by decide +kernel
theorem dX12_aRule_155 : decode cX12_aRule 155 = .ok (.ifCond .ne 16, 3) := by decide +kernel
theorem dX12_aRule_158 : decode cX12_aRule 158 = .ok (.aload_n 0, 1) := by decide +kernel
theorem dX12_aRule_159 : decode cX12_aRule 159 = .ok (.ldc 219, 2) := by decide +kernel
theorem dX12_aRule_161 : decode cX12_aRule 161 = .ok (.bipush 8, 2) := by decide +kernel
theorem dX12_aRule_163 : decode cX12_aRule 163 = .ok (.invokevirtual 235, 3) := by decide +kernel
theorem dX12_aRule_166 : decode cX12_aRule 166 = .ok (.ifCond .ne 5, 3) := by decide +kernel
theorem dX12_aRule_169 : decode cX12_aRule 169 = .ok (.iconst 0, 1) := by decide +kernel
theorem dX12_aRule_170 : decode cX12_aRule 170 = .ok (.ireturn, 1) := by decide +kernel
theorem dX12_aRule_171 : decode cX12_aRule 171 = .ok (.iload 6, 2) := by decide +kernel
theorem dX12_aRule_173 : decode cX12_aRule 173 = .ok (.iconst 1, 1) := by decide +kernel
theorem dX12_aRule_174 : decode cX12_aRule 174 = .ok (.if_icmp .ne 47, 3) := by decide +kernel
theorem dX12_aRule_177 : decode cX12_aRule 177 = .ok (.aload_n 0, 1) := by decide +kernel
theorem dX12_aRule_178 : decode cX12_aRule 178 = .ok (.bipush 10, 2) := by decide +kernel
theorem dX12_aRule_180 : decode cX12_aRule 180 = .ok (.invokevirtual 250, 3) := by decide +kernel
theorem dX12_aRule_183 : decode cX12_aRule 183 = .ok (.ifCond .ne 38, 3) := by decide +kernel
theorem dX12_aRule_186 : decode cX12_aRule 186 = .ok (.aload_n 0, 1) := by decide +kernel
theorem dX12_aRule_187 : decode cX12_aRule 187 = .ok (.ldc 219, 2) := by decide +kernel
theorem dX12_aRule_189 : decode cX12_aRule 189 = .ok (.bipush 9, 2) := by decide +kernel
theorem dX12_aRule_191 : decode cX12_aRule 191 = .ok (.invokevirtual 235, 3) := by decide +kernel
theorem dX12_aRule_194 : decode cX12_aRule 194 = .ok (.ifCond .eq 25, 3) := by decide +kernel
theorem dX12_aRule_197 : decode cX12_aRule 197 = .ok (.aload_n 0, 1) := by decide +kernel
theorem dX12_aRule_198 : decode cX12_aRule 198 = .ok (.iload 4, 2) := by decide +kernel
theorem dX12_aRule_200 : decode cX12_aRule 200 = .ok (.iconst 3, 1) := by decide +kernel
theorem dX12_aRule_201 : decode cX12_aRule 201 = .ok (.iadd, 1) := by decide +kernel
theorem dX12_aRule_202 : decode cX12_aRule 202 = .ok (.iconst 0, 1) := by decide +kernel
theorem dX12_aRule_203 : decode cX12_aRule 203 = .ok (.aload_n 0, 1) := by decide +kernel
theorem dX12_aRule_204 : decode cX12_aRule 204 = .ok (.getfield 7, 3) := by decide +kernel
theorem dX12_aRule_207 : decode cX12_aRule 207 = .ok (.iload_n 2, 1) := by decide +kernel
theorem dX12_aRule_208 : decode cX12_aRule 208 = .ok (.iconst 1, 1) := by decide +kernel
theorem dX12_aRule_209 : decode cX12_aRule 209 = .ok (.iadd, 1) := by decide +kernel
theorem dX12_aRule_210 : decode cX12_aRule 210 = .ok (.iaload, 1) := by decide +kernel
theorem dX12_aRule_211 : decode cX12_aRule 211 = .ok (.iconst 1, 1) := by decide +kernel
theorem dX12_aRule_212 : decode cX12_aRule 212 = .ok (.isub, 1) := by decide +kernel
theorem dX12_aRule_213 : decode cX12_aRule 213 = .ok (.invokevirtual 231, 3) := by decide +kernel
theorem dX12_aRule_216 : decode cX12_aRule 216 = .ok (.ifCond .ne 5, 3) := by decide +kernel
theorem dX12_aRule_219 : decode cX12_aRule 219 = .ok (.iconst 0, 1) := by decide +kernel
theorem dX12_aRule_220 : decode cX12_aRule 220 = .ok (.ireturn, 1) := by decide +kernel
theorem dX12_aRule_221 : decode cX12_aRule 221 = .ok (.iload 6, 2) := by decide +kernel
theorem dX12_aRule_223 : decode cX12_aRule 223 = .ok (.ifCond .ne 27, 3) := by decide +kernel
theorem dX12_aRule_226 : decode cX12_aRule 226 = .ok (.aload_n 0, 1) := by decide +kernel
theorem dX12_aRule_227 : decode cX12_aRule 227 = .ok (.iload 4, 2) := by decide +kernel
theorem dX12_aRule_229 : decode cX12_aRule 229 = .ok (.iconst 3, 1) := by decide +kernel
theorem dX12_aRule_230 : decode cX12_aRule 230 = .ok (.iadd, 1) := by decide +kernel
theorem dX12_aRule_231 : decode cX12_aRule 231 = .ok (.iconst 0, 1) := by decide +kernel
theorem dX12_aRule_232 : decode cX12_aRule 232 = .ok (.aload_n 0, 1) := by decide +kernel
theorem dX12_aRule_233 : decode cX12_aRule 233 = .ok (.getfield 7, 3) := by decide +kernel
theorem dX12_aRule_236 : decode cX12_aRule 236 = .ok (.iload_n 2, 1) := by decide +kernel
theorem dX12_aRule_237 : decode cX12_aRule 237 = .ok (.iconst 1, 1) := by decide +kernel
theorem dX12_aRule_238 : decode cX12_aRule 238 = .ok (.iadd, 1) := by decide +kernel
theorem dX12_aRule_239 : decode cX12_aRule 239 = .ok (.iaload, 1) := by decide +kernel
theorem dX12_aRule_240 : decode cX12_aRule 240 = .ok (.iconst 1, 1) := by decide +kernel
theorem dX12_aRule_241 : decode cX12_aRule 241 = .ok (.isub, 1) := by decide +kernel
theorem dX12_aRule_242 : decode cX12_aRule 242 = .ok (.invokevirtual 231, 3) := by decide +kernel
theorem dX12_aRule_245 : decode cX12_aRule 245 = .ok (.ifCond .ne 5, 3) := by decide +kernel
theorem dX12_aRule_248 : decode cX12_aRule 248 = .ok (.iconst 0, 1) := by decide +kernel
theorem dX12_aRule_249 : decode cX12_aRule 249 = .ok (.ireturn, 1) := by decide +kernel
theorem dX12_aRule_250 : decode cX12_aRule 250 = .ok (.aload_n 0, 1) := by decide +kernel
theorem dX12_aRule_251 : decode cX12_aRule 251 = .ok (.bipush 59, 2) := by decide +kernel
theorem dX12_aRule_253 : decode cX12_aRule 253 = .ok (.invokevirtual 202, 3) := by decide +kernel
theorem dX12_aRule_256 : decode cX12_aRule 256 = .ok (.ifCond .eq 50, 3) := by decide +kernel
theorem dX12_aRule_259 : decode cX12_aRule 259 = .ok (.aload_n 0, 1) := by decide +kernel
theorem dX12_aRule_260 : decode cX12_aRule 260 = .ok (.sipush 1088, 3) := by decide +kernel
theorem dX12_aRule_263 : decode cX12_aRule 263 = .ok (.iload_n 1, 1) := by decide +kernel
theorem dX12_aRule_264 : decode cX12_aRule 264 = .ok (.iload_n 3, 1) := by decide +kernel
theorem dX12_aRule_265 : decode cX12_aRule 265 = .ok (.iload 5, 2) := by decide +kernel
theorem dX12_aRule_267 : decode cX12_aRule 267 = .ok (.aload_n 0, 1) := by decide +kernel
theorem dX12_aRule_268 : decode cX12_aRule 268 = .ok (.getfield 7, 3) := by decide +kernel
theorem dX12_aRule_271 : decode cX12_aRule 271 = .ok (.iload 4, 2) := by decide +kernel
theorem dX12_aRule_273 : decode cX12_aRule 273 = .ok (.iconst 1, 1) := by decide +kernel
theorem dX12_aRule_274 : decode cX12_aRule 274 = .ok (.iadd, 1) := by decide +kernel
theorem dX12_aRule_275 : decode cX12_aRule 275 = .ok (.iaload, 1) := by decide +kernel
theorem dX12_aRule_276 : decode cX12_aRule 276 = .ok (.aload_n 0, 1) := by decide +kernel
theorem dX12_aRule_277 : decode cX12_aRule 277 = .ok (.getfield 7, 3) := by decide +kernel
theorem dX12_aRule_280 : decode cX12_aRule 280 = .ok (.iload 4, 2) := by decide +kernel
theorem dX12_aRule_282 : decode cX12_aRule 282 = .ok (.iconst 2, 1) := by decide +kernel
theorem dX12_aRule_283 : decode cX12_aRule 283 = .ok (.iadd, 1) := by decide +kernel
theorem dX12_aRule_284 : decode cX12_aRule 284 = .ok (.iaload, 1) := by decide +kernel
theorem dX12_aRule_285 : decode cX12_aRule 285 = .ok (.aload_n 0, 1) := by decide +kernel
theorem dX12_aRule_286 : decode cX12_aRule 286 = .ok (.getfield 7, 3) := by decide +kernel
theorem dX12_aRule_289 : decode cX12_aRule 289 = .ok (.iload 4, 2) := by decide +kernel
theorem dX12_aRule_291 : decode cX12_aRule 291 = .ok (.iconst 3, 1) := by decide +kernel
theorem dX12_aRule_292 : decode cX12_aRule 292 = .ok (.iadd, 1) := by decide +kernel
theorem dX12_aRule_293 : decode cX12_aRule 293 = .ok (.iaload, 1) := by decide +kernel
theorem dX12_aRule_294 : decode cX12_aRule 294 = .ok (.invokevirtual 253, 3) := by decide +kernel
theorem dX12_aRule_297 : decode cX12_aRule 297 = .ok (.ifCond .eq 9, 3) := by decide +kernel
theorem dX12_aRule_300 : decode cX12_aRule 300 = .ok (.aload_n 0, 1) := by decide +kernel
theorem dX12_aRule_301 : decode cX12_aRule 301 = .ok (.iconst 5, 1) := by decide +kernel
theorem dX12_aRule_302 : decode cX12_aRule 302 = .ok (.invokevirtual 205, 3) := by decide +kernel
theorem dX12_aRule_305 : decode cX12_aRule 305 = .ok (.ireturn, 1) := by decide +kernel
theorem dX12_aRule_306 : decode cX12_aRule 306 = .ok (.aload_n 0, 1) := by decide +kernel
theorem dX12_aRule_307 : decode cX12_aRule 307 = .ok (.getfield 7, 3) := by decide +kernel
theorem dX12_aRule_310 : decode cX12_aRule 310 = .ok (.iload_n 2, 1) := by decide +kernel
theorem dX12_aRule_311 : decode cX12_aRule 311 = .ok (.iconst 4, 1) := by decide +kernel
theorem dX12_aRule_312 : decode cX12_aRule 312 = .ok (.iadd, 1) := by decide +kernel
theorem dX12_aRule_313 : decode cX12_aRule 313 = .ok (.dup2, 1) := by decide +kernel
theorem dX12_aRule_314 : decode cX12_aRule 314 = .ok (.iaload, 1) := by decide +kernel
theorem dX12_aRule_315 : decode cX12_aRule 315 = .ok (.iconst 1, 1) := by decide +kernel
theorem dX12_aRule_316 : decode cX12_aRule 316 = .ok (.iadd, 1) := by decide +kernel
theorem dX12_aRule_317 : decode cX12_aRule 317 = .ok (.iastore, 1) := by decide +kernel
theorem dX12_aRule_318 : decode cX12_aRule 318 = .ok (.iconst 1, 1) := by decide +kernel
theorem dX12_aRule_319 : decode cX12_aRule 319 = .ok (.ireturn, 1) := by decide +kernel
abbrev f_c_X12_aRule : List (Nat × Int) := [(64, 12), (64, 13), (64, 14), (64, 15), (64, 17), (64, 18), (65, -1)]
set_option maxHeartbeats 4000000 in
set_option maxRecDepth 100000 in
theorem c_X12_aRule (G : KG) (l : Launch) (M : Mem) (a1 : Int) (hI_M : Inv true M) (hpre : -2147483648 ≤ a1 ∧ a1 ≤ 2147483647 ∧ 0 ≤ a1 ∧ a1 ≤ 1) (hR : R4 M) : KC true G l yX12_aRule cX12_aRule 7 (some .boolean) (6, 133) [vR G 163, vI a1] M (fun A => kQi true G A (fun (r : Int) (N : Mem) => Inv true N ∧ Fr f_c_X12_aRule M N ∧ ((r = 1 ∧ 5 * (N 163 14) - (N 163 12) ≥ 5 * (M 163 14) - (M 163 12) + 1) ∨ (r = 0 ∧ 5 * (N 163 14) - (N 163 12) ≥ 5 * (M 163 14) - (M 163 12) ∧ (N 163 18) ≠ 0)) ∧ (LO N M ∧ (r = 1 → R4 N)))) := by
  refine kx_met (lo := [some (vR G 163), some (vI a1), none, none, none, none, none]) (by decide) (Nat.le_of_ble_eq_true rfl) rfl ?_
  intro X F hQ
  have hF_M : Fr f_c_X12_aRule M M := Fr.rf _ _
  have h_1 := Inv.g hI_M kd_163 rfl 14 (a := 0) (b := 900) rfl rfl
  have h_2 := Inv.g hI_M kd_163 rfl 12 (a := 0) (b := 4) rfl rfl
  refine kx_sipush 3 F dX12_aRule_0 (by decide) rfl ?_
  refine kx_iload_n 4 F 1 dX12_aRule_3 rfl rfl rfl ?_
  refine kx_Si 7 F (As := [vI 1088, vI a1]) (st := []) sd_X12_216 (c_X12_rowOf G l M 1088 a1 hI_M (by omega)) ⟨by decide, by decide⟩ rfl rfl (Nat.le_of_ble_eq_true rfl) dX12_aRule_4 rfl ?_
  intro r_3 N_4 q_5
  obtain ⟨rfl, q_5c⟩ := q_5
  refine kx_topi (e' := 85 * a1 + 1188) (by omega) ?_
  refine kx_istore_n 8 F 2 (lo' := [some (vR G 163), some (vI a1), some (vI (85 * a1 + 1188)), none, none, none, none]) dX12_aRule_7 rfl (by decide) rfl rfl rfl ?_
  refine kx_aload_n 9 F 0 dX12_aRule_8 rfl rfl rfl ?_
  refine kx_getr 12 F fl_X12_7 kd_163 rfl rfl (j := 0) rfl dX12_aRule_9 (v := 164) (uq_164 (Inv.r hI_M kd_163 rfl 0 rfl rfl)) rfl ?_
  refine kx_iload_n 13 F 2 dX12_aRule_12 rfl rfl rfl ?_
  refine kx_iconst 14 F dX12_aRule_13 rfl ?_
  refine kx_iadd 15 F (v := 85 * a1 + 1192) dX12_aRule_14 (by omega) rfl ?_
  refine kx_iald 16 F kd_164 rfl rfl (by omega) (by decide) dX12_aRule_15 (v := (M 164 (85 * a1 + 1192))) rfl rfl ?_
  have ha_6 : atlo (85 * a1 + 1192) = 0 ∧ athi (85 * a1 + 1192) = 20 := at_a (85 * a1 + 1192) 4 a1 4 (by omega) (by omega) (by decide)
  have h_7 := Inv.g hI_M kd_164 rfl (85 * a1 + 1192) (a := 0) (b := 20) ha_6.1 ha_6.2
  refine kx_istore_n 17 F 3 (lo' := [some (vR G 163), some (vI a1), some (vI (85 * a1 + 1188)), some (vI (M 164 (85 * a1 + 1192))), none, none, none]) dX12_aRule_16 rfl (by decide) rfl rfl rfl ?_
  refine kx_iload_n 18 F 3 dX12_aRule_17 rfl rfl rfl ?_
  refine kx_bipush 20 F dX12_aRule_18 (by decide) rfl ?_
  refine kx_icmp_ne 23 F 30 dX12_aRule_20 (by decide) rfl (by omega) (by decide) (fun h_8 => ?_) (fun h_8 => ?_)
  · refine kx_sipush 33 F dX12_aRule_30 (by decide) rfl ?_
    refine kx_iload_n 34 F 1 dX12_aRule_33 rfl rfl rfl ?_
    refine kx_iload_n 35 F 3 dX12_aRule_34 rfl rfl rfl ?_
    refine kx_Si 38 F (As := [vI 1088, vI a1, vI (M 164 (85 * a1 + 1192))]) (st := []) sd_X12_243 (c_X12_ruleRow G l M 1088 a1 (M 164 (85 * a1 + 1192)) hI_M (by omega)) ⟨by decide, by decide⟩ rfl rfl (Nat.le_of_ble_eq_true rfl) dX12_aRule_35 rfl ?_
    intro r_9 N_10 q_11
    obtain ⟨rfl, q_11c⟩ := q_11
    refine kx_topi (e' := 85 * a1 + 4 * (M 164 (85 * a1 + 1192)) + 1193) (by omega) ?_
    refine kx_istore 40 F 4 (lo' := [some (vR G 163), some (vI a1), some (vI (85 * a1 + 1188)), some (vI (M 164 (85 * a1 + 1192))), some (vI (85 * a1 + 4 * (M 164 (85 * a1 + 1192)) + 1193)), none, none]) dX12_aRule_38 (by decide) rfl rfl rfl ?_
    refine kx_aload_n 41 F 0 dX12_aRule_40 rfl rfl rfl ?_
    refine kx_Vv 44 (ci := 0) F (As := []) (st := []) vd_X12_199 (c_X12_ahead G l M  hI_M) kd_163 rfl rfl rfl ⟨by decide, by decide⟩ rfl rfl (Nat.le_of_ble_eq_true rfl) dX12_aRule_41 rfl ?_
    intro N_12 q_13
    obtain ⟨hI_N_12, hG_N_12, q_13c⟩ := q_13
    have hF_N_12 : Fr f_c_X12_aRule M N_12 := Fr.c hF_M hG_N_12 rfl
    have h_14 := Inv.g hI_N_12 kd_163 rfl 12 (a := 0) (b := 4) rfl rfl
    have h_15 := Inv.g hI_N_12 kd_163 rfl 14 (a := 0) (b := 900) rfl rfl
    have h_16 := Inv.g hI_N_12 kd_163 rfl 12 (a := 0) (b := 4) rfl rfl
    have h_17 := Inv.g hI_N_12 kd_163 rfl 14 (a := 0) (b := 900) rfl rfl
    rcases q_13c with q_13c | q_13c
    · refine kx_aload_n 45 F 0 dX12_aRule_44 rfl rfl rfl ?_
      refine kx_ldcS 47 F 11 (by decide) rfl rfl dX12_aRule_45 rfl ?_
      refine kx_Vi 50 (ci := 0) F (As := [vT G 11]) (st := []) vd_X12_224 (c_X12_isName G l N_12  hI_N_12) kd_163 rfl rfl rfl ⟨by decide, by decide⟩ rfl rfl (Nat.le_of_ble_eq_true rfl) dX12_aRule_47 rfl ?_
      intro r_18 N_19 q_20
      obtain ⟨rfl, q_20c⟩ := q_20
      rcases q_20c with q_20c | q_20c
      · exfalso; omega
      · refine kx_if_ne 53 F 59 dX12_aRule_50 (by decide) rfl (by omega) (fun h_21 => (by exfalso; omega)) (fun h_21 => ?_)
        refine kx_aload_n 54 F 0 dX12_aRule_53 rfl rfl rfl ?_
        refine kx_iconst 55 F dX12_aRule_54 rfl ?_
        refine kx_Vi 58 (ci := 0) F (As := [vI 2]) (st := []) vd_X12_205 (c_X12_fails G l N_12 2 hI_N_12 (by omega)) kd_163 rfl rfl rfl ⟨by decide, by decide⟩ rfl rfl (Nat.le_of_ble_eq_true rfl) dX12_aRule_55 rfl ?_
        intro r_22 N_23 q_24
        obtain ⟨hI_N_23, hG_N_23, q_24c⟩ := q_24
        have hF_N_23 : Fr f_c_X12_aRule M N_23 := Fr.c hF_N_12 hG_N_23 rfl
        have h_25 := Inv.g hI_N_23 kd_163 rfl 18 (a := (-2147483648)) (b := 2147483647) rfl rfl
        have e_26 : (N_23 163 14) = (N_12 163 14) := by rw [Fr.e hG_N_23 kd_163 _ rfl]
        have e_27 : (N_23 163 12) = (N_12 163 12) := by rw [Fr.e hG_N_23 kd_163 _ rfl]
        have e_28 : (N_23 163 14) = (N_12 163 14) := by rw [Fr.e hG_N_23 kd_163 _ rfl]
        have e_29 : (N_23 163 12) = (N_12 163 12) := by rw [Fr.e hG_N_23 kd_163 _ rfl]
        exact kx_zret F hQ (by omega) ⟨hI_N_23, hF_N_23, (by omega), ⟨(LO.fr (LO.fr (LO.rf M) hG_N_12 rfl) hG_N_23 rfl), (fun h => absurd h (by omega))⟩⟩ dX12_aRule_58
    · refine kx_aload_n 45 F 0 dX12_aRule_44 rfl rfl rfl ?_
      refine kx_ldcS 47 F 11 (by decide) rfl rfl dX12_aRule_45 rfl ?_
      refine kx_Vi 50 (ci := 0) F (As := [vT G 11]) (st := []) vd_X12_224 (c_X12_isName G l N_12  hI_N_12) kd_163 rfl rfl rfl ⟨by decide, by decide⟩ rfl rfl (Nat.le_of_ble_eq_true rfl) dX12_aRule_47 rfl ?_
      intro r_30 N_31 q_32
      obtain ⟨rfl, q_32c⟩ := q_32
      rcases q_32c with q_32c | q_32c
      · refine kx_if_ne 53 F 59 dX12_aRule_50 (by decide) rfl (by omega) (fun h_33 => ?_) (fun h_33 => (by exfalso; omega))
        refine kx_aload_n 60 F 0 dX12_aRule_59 rfl rfl rfl ?_
        refine kx_Vi 63 (ci := 0) F (As := []) (st := []) vd_X12_228 (c_X12_letterHere G l N_12  hI_N_12) kd_163 rfl rfl rfl ⟨by decide, by decide⟩ rfl rfl (Nat.le_of_ble_eq_true rfl) dX12_aRule_60 rfl ?_
        intro r_34 N_35 q_36
        obtain ⟨rfl, q_36c⟩ := q_36
        refine kx_istore 65 F 5 (lo' := [some (vR G 163), some (vI a1), some (vI (85 * a1 + 1188)), some (vI (M 164 (85 * a1 + 1192))), some (vI (85 * a1 + 4 * (M 164 (85 * a1 + 1192)) + 1193)), some (vI r_34), none]) dX12_aRule_63 (by decide) rfl rfl rfl ?_
        refine kx_iload 67 F 5 dX12_aRule_65 rfl rfl ?_
        refine kx_iconst 68 F dX12_aRule_67 rfl ?_
        refine kx_icmp_ne 71 F 77 dX12_aRule_68 (by decide) rfl (by omega) (by decide) (fun h_37 => ?_) (fun h_37 => ?_)
        · refine kx_aload_n 78 F 0 dX12_aRule_77 rfl rfl rfl ?_
          refine kx_Vv 81 (ci := 0) F (As := []) (st := []) vd_X12_199 (c_X12_ahead G l N_12  hI_N_12) kd_163 rfl rfl rfl ⟨by decide, by decide⟩ rfl rfl (Nat.le_of_ble_eq_true rfl) dX12_aRule_78 rfl ?_
          intro N_38 q_39
          obtain ⟨hI_N_38, hG_N_38, q_39c⟩ := q_39
          have hF_N_38 : Fr f_c_X12_aRule M N_38 := Fr.c hF_N_12 hG_N_38 rfl
          have h_40 := Inv.g hI_N_38 kd_163 rfl 12 (a := 0) (b := 4) rfl rfl
          have h_41 := Inv.g hI_N_38 kd_163 rfl 14 (a := 0) (b := 900) rfl rfl
          have h_42 := Inv.g hI_N_38 kd_163 rfl 12 (a := 0) (b := 4) rfl rfl
          have h_43 := Inv.g hI_N_38 kd_163 rfl 14 (a := 0) (b := 900) rfl rfl
          rcases q_39c with q_39c | q_39c
          · refine kx_aload_n 82 F 0 dX12_aRule_81 rfl rfl rfl ?_
            refine kx_iload 84 F 4 dX12_aRule_82 rfl rfl ?_
            refine kx_iconst 85 F dX12_aRule_84 rfl ?_
            refine kx_iadd 86 F (v := 85 * a1 + 4 * (M 164 (85 * a1 + 1192)) + 1194) dX12_aRule_85 (by omega) rfl ?_
            refine kx_iconst 87 F dX12_aRule_86 rfl ?_
            refine kx_aload_n 88 F 0 dX12_aRule_87 rfl rfl rfl ?_
            refine kx_getr 91 F fl_X12_7 kd_163 rfl rfl (j := 0) rfl dX12_aRule_88 (v := 164) (uq_164 (Inv.r hI_N_38 kd_163 rfl 0 rfl rfl)) rfl ?_
            refine kx_iload_n 92 F 2 dX12_aRule_91 rfl rfl rfl ?_
            refine kx_iald 93 F kd_164 rfl rfl (by omega) (by decide) dX12_aRule_92 (v := (M 164 (85 * a1 + 1188))) (by rw [Fr.e hG_N_38 kd_164 _ rfl, Fr.e hG_N_12 kd_164 _ rfl]) rfl ?_
            have ha_44 : atlo (85 * a1 + 1188) = 0 ∧ athi (85 * a1 + 1188) = 3 := at_a (85 * a1 + 1188) 4 a1 0 (by omega) (by omega) (by decide)
            have h_45 := Inv.g hI_M kd_164 rfl (85 * a1 + 1188) (a := 0) (b := 3) ha_44.1 ha_44.2
            refine kx_iconst 94 F dX12_aRule_93 rfl ?_
            refine kx_isub 95 F (v := (M 164 (85 * a1 + 1188)) - 1) dX12_aRule_94 rfl rfl ?_
            have ha_46 : atlo (85 * a1 + 4 * (M 164 (85 * a1 + 1192)) + 1194) = 0 ∧ athi (85 * a1 + 4 * (M 164 (85 * a1 + 1192)) + 1194) = 2 := at_r (85 * a1 + 4 * (M 164 (85 * a1 + 1192)) + 1194) 4 a1 (M 164 (85 * a1 + 1192)) 1 (by omega) (by omega) (by omega) (by decide)
            refine kx_Vi 98 (ci := 0) F (As := [vI (85 * a1 + 4 * (M 164 (85 * a1 + 1192)) + 1194), vI 0, vI ((M 164 (85 * a1 + 1188)) - 1)]) (st := []) vd_X12_231 (c_X12_number G l N_38 (85 * a1 + 4 * (M 164 (85 * a1 + 1192)) + 1194) 0 ((M 164 (85 * a1 + 1188)) - 1) hI_N_38 (by omega)) kd_163 rfl rfl rfl ⟨by decide, by decide⟩ rfl rfl (Nat.le_of_ble_eq_true rfl) dX12_aRule_95 rfl ?_
            intro r_47 N_48 q_49
            obtain ⟨hI_N_48, hG_N_48, q_49c, hx_N_48⟩ := q_49
            have hF_N_48 : Fr f_c_X12_aRule M N_48 := Fr.c hF_N_38 hG_N_48 rfl
            have h_50 := Inv.g hI_N_48 kd_163 rfl 14 (a := 0) (b := 900) rfl rfl
            have h_51 := Inv.g hI_N_48 kd_163 rfl 12 (a := 0) (b := 4) rfl rfl
            have h_52 := Inv.g hI_N_48 kd_163 rfl 14 (a := 0) (b := 900) rfl rfl
            have h_53 := Inv.g hI_N_48 kd_163 rfl 12 (a := 0) (b := 4) rfl rfl
            have h_54 := Inv.g hI_N_48 kd_163 rfl 18 (a := (-2147483648)) (b := 2147483647) rfl rfl
            rcases q_49c with q_49c | q_49c
            · refine kx_if_eq 101 F 121 dX12_aRule_98 (by decide) rfl (by omega) (fun h_55 => (by exfalso; omega)) (fun h_55 => ?_)
              refine kx_aload_n 102 F 0 dX12_aRule_101 rfl rfl rfl ?_
              refine kx_iload 104 F 4 dX12_aRule_102 rfl rfl ?_
              refine kx_iconst 105 F dX12_aRule_104 rfl ?_
              refine kx_iadd 106 F (v := 85 * a1 + 4 * (M 164 (85 * a1 + 1192)) + 1195) dX12_aRule_105 (by omega) rfl ?_
              refine kx_iconst 107 F dX12_aRule_106 rfl ?_
              refine kx_aload_n 108 F 0 dX12_aRule_107 rfl rfl rfl ?_
              refine kx_getr 111 F fl_X12_7 kd_163 rfl rfl (j := 0) rfl dX12_aRule_108 (v := 164) (uq_164 (Inv.r hI_N_48 kd_163 rfl 0 rfl rfl)) rfl ?_
              refine kx_iload_n 112 F 2 dX12_aRule_111 rfl rfl rfl ?_
              refine kx_iald 113 F kd_164 rfl rfl (by omega) (by decide) dX12_aRule_112 (v := (M 164 (85 * a1 + 1188))) (by rw [hx_N_48 _ (by omega), Fr.e hG_N_38 kd_164 _ rfl, Fr.e hG_N_12 kd_164 _ rfl]) rfl ?_
              refine kx_iconst 114 F dX12_aRule_113 rfl ?_
              refine kx_isub 115 F (v := (M 164 (85 * a1 + 1188)) - 1) dX12_aRule_114 rfl rfl ?_
              have ha_56 : atlo (85 * a1 + 4 * (M 164 (85 * a1 + 1192)) + 1195) = 0 ∧ athi (85 * a1 + 4 * (M 164 (85 * a1 + 1192)) + 1195) = 2 := at_r (85 * a1 + 4 * (M 164 (85 * a1 + 1192)) + 1195) 4 a1 (M 164 (85 * a1 + 1192)) 2 (by omega) (by omega) (by omega) (by decide)
              refine kx_Vi 118 (ci := 0) F (As := [vI (85 * a1 + 4 * (M 164 (85 * a1 + 1192)) + 1195), vI 0, vI ((M 164 (85 * a1 + 1188)) - 1)]) (st := []) vd_X12_231 (c_X12_number G l N_48 (85 * a1 + 4 * (M 164 (85 * a1 + 1192)) + 1195) 0 ((M 164 (85 * a1 + 1188)) - 1) hI_N_48 (by omega)) kd_163 rfl rfl rfl ⟨by decide, by decide⟩ rfl rfl (Nat.le_of_ble_eq_true rfl) dX12_aRule_115 rfl ?_
              intro r_57 N_58 q_59
              obtain ⟨hI_N_58, hG_N_58, q_59c, hx_N_58⟩ := q_59
              have hF_N_58 : Fr f_c_X12_aRule M N_58 := Fr.c hF_N_48 hG_N_58 rfl
              have h_60 := Inv.g hI_N_58 kd_163 rfl 14 (a := 0) (b := 900) rfl rfl
              have h_61 := Inv.g hI_N_58 kd_163 rfl 12 (a := 0) (b := 4) rfl rfl
              have h_62 := Inv.g hI_N_58 kd_163 rfl 14 (a := 0) (b := 900) rfl rfl
              have h_63 := Inv.g hI_N_58 kd_163 rfl 12 (a := 0) (b := 4) rfl rfl
              have h_64 := Inv.g hI_N_58 kd_163 rfl 18 (a := (-2147483648)) (b := 2147483647) rfl rfl
              rcases q_59c with q_59c | q_59c
              · refine kx_if_ne 121 F 123 dX12_aRule_118 (by decide) rfl (by omega) (fun h_65 => ?_) (fun h_65 => (by exfalso; omega))
                refine kx_aload_n 124 F 0 dX12_aRule_123 rfl rfl rfl ?_
                refine kx_getr 127 F fl_X12_7 kd_163 rfl rfl (j := 0) rfl dX12_aRule_124 (v := 164) (uq_164 (Inv.r hI_N_58 kd_163 rfl 0 rfl rfl)) rfl ?_
                refine kx_iload 129 F 4 dX12_aRule_127 rfl rfl ?_
                refine kx_iload 131 F 5 dX12_aRule_129 rfl rfl ?_
                refine kx_iast 132 F kd_164 rfl rfl (by omega) (by decide) dX12_aRule_131 rfl ?_
                intro N_66 hM_N_66
                have ha_67 : atlo (85 * a1 + 4 * (M 164 (85 * a1 + 1192)) + 1193) = 0 ∧ athi (85 * a1 + 4 * (M 164 (85 * a1 + 1192)) + 1193) = 5 := at_r (85 * a1 + 4 * (M 164 (85 * a1 + 1192)) + 1193) 4 a1 (M 164 (85 * a1 + 1192)) 0 (by omega) (by omega) (by omega) (by decide)
                have hI_N_66 : Inv true N_66 := Inv.u hI_N_58 hM_N_66 kd_164 (a := 0) (b := 5) ha_67.1 ha_67.2 rfl (by omega)
                have hF_N_66 : Fr f_c_X12_aRule M N_66 := Fr.u hF_N_58 hM_N_66 kd_164 rfl
                refine kx_aload_n 133 F 0 dX12_aRule_132 rfl rfl rfl ?_
                refine kx_getr 136 F fl_X12_7 kd_163 rfl rfl (j := 0) rfl dX12_aRule_133 (v := 164) (uq_164 (Inv.r hI_N_66 kd_163 rfl 0 rfl rfl)) rfl ?_
                refine kx_iload 138 F 4 dX12_aRule_136 rfl rfl ?_
                refine kx_iconst 139 F dX12_aRule_138 rfl ?_
                refine kx_iadd 140 F (v := 85 * a1 + 4 * (M 164 (85 * a1 + 1192)) + 1196) dX12_aRule_139 (by omega) rfl ?_
                refine kx_iconst 141 F dX12_aRule_140 rfl ?_
                refine kx_iast 142 F kd_164 rfl rfl (by omega) (by decide) dX12_aRule_141 rfl ?_
                intro N_68 hM_N_68
                have ha_69 : atlo (85 * a1 + 4 * (M 164 (85 * a1 + 1192)) + 1196) = (-1) ∧ athi (85 * a1 + 4 * (M 164 (85 * a1 + 1192)) + 1196) = 2 := at_r (85 * a1 + 4 * (M 164 (85 * a1 + 1192)) + 1196) 4 a1 (M 164 (85 * a1 + 1192)) 3 (by omega) (by omega) (by omega) (by decide)
                have hI_N_68 : Inv true N_68 := Inv.u hI_N_66 hM_N_68 kd_164 (a := (-1)) (b := 2) ha_69.1 ha_69.2 rfl (by omega)
                have hF_N_68 : Fr f_c_X12_aRule M N_68 := Fr.u hF_N_66 hM_N_68 kd_164 rfl
                refine kx_aload_n 143 F 0 dX12_aRule_142 rfl rfl rfl ?_
                refine kx_sipush 146 F dX12_aRule_143 (by decide) rfl ?_
                refine kx_iload 148 F 5 dX12_aRule_146 rfl rfl ?_
                refine kx_Vi 151 (ci := 0) F (As := [vI 1088, vI r_34]) (st := []) vd_X12_247 (c_sortOfN G l N_68 1088 r_34 hI_N_68 (by omega)) kd_163 rfl rfl rfl ⟨by decide, by decide⟩ rfl rfl (Nat.le_of_ble_eq_true rfl) dX12_aRule_148 rfl ?_
                intro r_70 N_71 q_72
                obtain ⟨rfl, q_72c⟩ := q_72
                refine kx_istore 153 F 6 (lo' := [some (vR G 163), some (vI a1), some (vI (85 * a1 + 1188)), some (vI (M 164 (85 * a1 + 1192))), some (vI (85 * a1 + 4 * (M 164 (85 * a1 + 1192)) + 1193)), some (vI r_34), some (vI r_70)]) dX12_aRule_151 (by decide) rfl rfl rfl ?_
                refine kx_iload 155 F 6 dX12_aRule_153 rfl rfl ?_
                refine kx_if_ne 158 F 171 dX12_aRule_155 (by decide) rfl (by omega) (fun h_73 => ?_) (fun h_73 => ?_)
                · refine kx_iload 173 F 6 dX12_aRule_171 rfl rfl ?_
                  refine kx_iconst 174 F dX12_aRule_173 rfl ?_
                  refine kx_icmp_ne 177 F 221 dX12_aRule_174 (by decide) rfl (by omega) (by decide) (fun h_74 => ?_) (fun h_74 => ?_)
                  · refine kx_iload 223 F 6 dX12_aRule_221 rfl rfl ?_
                    refine kx_if_ne 226 F 250 dX12_aRule_223 (by decide) rfl (by omega) (fun h_75 => ?_) (fun h_75 => (by exfalso; omega))
                    refine kx_aload_n 251 F 0 dX12_aRule_250 rfl rfl rfl ?_
                    refine kx_bipush 253 F dX12_aRule_251 (by decide) rfl ?_
                    refine kx_Vi 256 (ci := 0) F (As := [vI 59]) (st := []) vd_X12_202 (c_X12_isSign G l N_68 59 hI_N_68 (by omega)) kd_163 rfl rfl rfl ⟨by decide, by decide⟩ rfl rfl (Nat.le_of_ble_eq_true rfl) dX12_aRule_253 rfl ?_
                    intro r_76 N_77 q_78
                    obtain ⟨rfl, q_78c⟩ := q_78
                    have e_79 : (N_68 163 12) = (N_58 163 12) := by rw [hM_N_68, mu_k kd_163 kd_164 rfl, hM_N_66, mu_k kd_163 kd_164 rfl]
                    have e_80 : (N_68 163 12) = (N_58 163 12) := by rw [hM_N_68, mu_k kd_163 kd_164 rfl, hM_N_66, mu_k kd_163 kd_164 rfl]
                    rcases q_78c with q_78c | q_78c
                    · refine kx_if_eq 259 F 306 dX12_aRule_256 (by decide) rfl (by omega) (fun h_81 => (by exfalso; omega)) (fun h_81 => ?_)
                      refine kx_aload_n 260 F 0 dX12_aRule_259 rfl rfl rfl ?_
                      refine kx_sipush 263 F dX12_aRule_260 (by decide) rfl ?_
                      refine kx_iload_n 264 F 1 dX12_aRule_263 rfl rfl rfl ?_
                      refine kx_iload_n 265 F 3 dX12_aRule_264 rfl rfl rfl ?_
                      refine kx_iload 267 F 5 dX12_aRule_265 rfl rfl ?_
                      refine kx_aload_n 268 F 0 dX12_aRule_267 rfl rfl rfl ?_
                      refine kx_getr 271 F fl_X12_7 kd_163 rfl rfl (j := 0) rfl dX12_aRule_268 (v := 164) (uq_164 (Inv.r hI_N_68 kd_163 rfl 0 rfl rfl)) rfl ?_
                      refine kx_iload 273 F 4 dX12_aRule_271 rfl rfl ?_
                      refine kx_iconst 274 F dX12_aRule_273 rfl ?_
                      refine kx_iadd 275 F (v := 85 * a1 + 4 * (M 164 (85 * a1 + 1192)) + 1194) dX12_aRule_274 (by omega) rfl ?_
                      refine kx_iald 276 F kd_164 rfl rfl (by omega) (by decide) dX12_aRule_275 (v := (N_48 164 (85 * a1 + 4 * (M 164 (85 * a1 + 1192)) + 1194))) (by rw [hM_N_68, mu_i (by omega), hM_N_66, mu_i (by omega), hx_N_58 _ (by omega)]) rfl ?_
                      have h_82 := Inv.g hI_N_48 kd_164 rfl (85 * a1 + 4 * (M 164 (85 * a1 + 1192)) + 1194) (a := 0) (b := 2) ha_46.1 ha_46.2
                      refine kx_aload_n 277 F 0 dX12_aRule_276 rfl rfl rfl ?_
                      refine kx_getr 280 F fl_X12_7 kd_163 rfl rfl (j := 0) rfl dX12_aRule_277 (v := 164) (uq_164 (Inv.r hI_N_68 kd_163 rfl 0 rfl rfl)) rfl ?_
                      refine kx_iload 282 F 4 dX12_aRule_280 rfl rfl ?_
                      refine kx_iconst 283 F dX12_aRule_282 rfl ?_
                      refine kx_iadd 284 F (v := 85 * a1 + 4 * (M 164 (85 * a1 + 1192)) + 1195) dX12_aRule_283 (by omega) rfl ?_
                      refine kx_iald 285 F kd_164 rfl rfl (by omega) (by decide) dX12_aRule_284 (v := (N_58 164 (85 * a1 + 4 * (M 164 (85 * a1 + 1192)) + 1195))) (by rw [hM_N_68, mu_i (by omega), hM_N_66, mu_i (by omega)]) rfl ?_
                      have h_83 := Inv.g hI_N_58 kd_164 rfl (85 * a1 + 4 * (M 164 (85 * a1 + 1192)) + 1195) (a := 0) (b := 2) ha_56.1 ha_56.2
                      refine kx_aload_n 286 F 0 dX12_aRule_285 rfl rfl rfl ?_
                      refine kx_getr 289 F fl_X12_7 kd_163 rfl rfl (j := 0) rfl dX12_aRule_286 (v := 164) (uq_164 (Inv.r hI_N_68 kd_163 rfl 0 rfl rfl)) rfl ?_
                      refine kx_iload 291 F 4 dX12_aRule_289 rfl rfl ?_
                      refine kx_iconst 292 F dX12_aRule_291 rfl ?_
                      refine kx_iadd 293 F (v := 85 * a1 + 4 * (M 164 (85 * a1 + 1192)) + 1196) dX12_aRule_292 (by omega) rfl ?_
                      refine kx_iald 294 F kd_164 rfl rfl (by omega) (by decide) dX12_aRule_293 (v := -1) (by rw [hM_N_68, mu_s]) rfl ?_
                      refine kx_Vi 297 (ci := 0) F (As := [vI 1088, vI a1, vI (M 164 (85 * a1 + 1192)), vI r_34, vI (N_48 164 (85 * a1 + 4 * (M 164 (85 * a1 + 1192)) + 1194)), vI (N_58 164 (85 * a1 + 4 * (M 164 (85 * a1 + 1192)) + 1195)), vI (-1)]) (st := []) vd_X12_253 (c_isRuleN G l N_68 1088 a1 (M 164 (85 * a1 + 1192)) r_34 (N_48 164 (85 * a1 + 4 * (M 164 (85 * a1 + 1192)) + 1194)) (N_58 164 (85 * a1 + 4 * (M 164 (85 * a1 + 1192)) + 1195)) (-1) hI_N_68 (by omega)) kd_163 rfl rfl rfl ⟨by decide, by decide⟩ rfl rfl (Nat.le_of_ble_eq_true rfl) dX12_aRule_294 rfl ?_
                      intro r_84 N_85 q_86
                      obtain ⟨rfl, q_86c⟩ := q_86
                      refine kx_if_eq 300 F 306 dX12_aRule_297 (by decide) rfl (by omega) (fun h_87 => ?_) (fun h_87 => ?_)
                      · refine kx_aload_n 307 F 0 dX12_aRule_306 rfl rfl rfl ?_
                        refine kx_getr 310 F fl_X12_7 kd_163 rfl rfl (j := 0) rfl dX12_aRule_307 (v := 164) (uq_164 (Inv.r hI_N_68 kd_163 rfl 0 rfl rfl)) rfl ?_
                        refine kx_iload_n 311 F 2 dX12_aRule_310 rfl rfl rfl ?_
                        refine kx_iconst 312 F dX12_aRule_311 rfl ?_
                        refine kx_iadd 313 F (v := 85 * a1 + 1192) dX12_aRule_312 (by omega) rfl ?_
                        refine kx_dup2 314 F dX12_aRule_313 rfl rfl rfl ?_
                        refine kx_iald 315 F kd_164 rfl rfl (by omega) (by decide) dX12_aRule_314 (v := (M 164 (85 * a1 + 1192))) (by rw [hM_N_68, mu_i (by omega), hM_N_66, mu_i (by omega), hx_N_58 _ (by omega), hx_N_48 _ (by omega), Fr.e hG_N_38 kd_164 _ rfl, Fr.e hG_N_12 kd_164 _ rfl]) rfl ?_
                        refine kx_iconst 316 F dX12_aRule_315 rfl ?_
                        refine kx_iadd 317 F (v := (M 164 (85 * a1 + 1192)) + 1) dX12_aRule_316 rfl rfl ?_
                        refine kx_iast 318 F kd_164 rfl rfl (by omega) (by decide) dX12_aRule_317 rfl ?_
                        intro N_88 hM_N_88
                        have hI_N_88 : Inv true N_88 := Inv.u hI_N_68 hM_N_88 kd_164 (a := 0) (b := 20) ha_6.1 ha_6.2 rfl (by omega)
                        have hF_N_88 : Fr f_c_X12_aRule M N_88 := Fr.u hF_N_68 hM_N_88 kd_164 rfl
                        refine kx_iconst 319 F dX12_aRule_318 rfl ?_
                        have e_89 : (N_88 163 14) = (N_58 163 14) := by rw [hM_N_88, mu_k kd_163 kd_164 rfl, hM_N_68, mu_k kd_163 kd_164 rfl, hM_N_66, mu_k kd_163 kd_164 rfl]
                        have e_90 : (N_88 163 12) = (N_58 163 12) := by rw [hM_N_88, mu_k kd_163 kd_164 rfl, hM_N_68, mu_k kd_163 kd_164 rfl, hM_N_66, mu_k kd_163 kd_164 rfl]
                        have e_91 : (N_88 163 14) = (N_58 163 14) := by rw [hM_N_88, mu_k kd_163 kd_164 rfl, hM_N_68, mu_k kd_163 kd_164 rfl, hM_N_66, mu_k kd_163 kd_164 rfl]
                        have e_92 : (N_88 163 12) = (N_58 163 12) := by rw [hM_N_88, mu_k kd_163 kd_164 rfl, hM_N_68, mu_k kd_163 kd_164 rfl, hM_N_66, mu_k kd_163 kd_164 rfl]
                        have e_93 : (N_88 163 18) = (N_58 163 18) := by rw [hM_N_88, mu_k kd_163 kd_164 rfl, hM_N_68, mu_k kd_163 kd_164 rfl, hM_N_66, mu_k kd_163 kd_164 rfl]
                        have h_94 := Inv.g hI_N_58 kd_163 rfl 18 (a := (-2147483648)) (b := 2147483647) rfl rfl
                        have e_95 : M 164 (1192 + 85 * a1) = M 164 (85 * a1 + 1192) := by rw [show 1192 + 85 * a1 = 85 * a1 + 1192 by omega]
                        have e_96 : M 164 (1188 + 85 * a1) = M 164 (85 * a1 + 1188) := by rw [show 1188 + 85 * a1 = 85 * a1 + 1188 by omega]
                        have e_97 : N_88 164 (1192 + 85 * a1) = (M 164 (85 * a1 + 1192)) + 1 := by rw [show 1192 + 85 * a1 = 85 * a1 + 1192 by omega, hM_N_88, mu_s]
                        have e_98 : N_88 164 (1194 + 85 * a1 + 4 * (M 164 (85 * a1 + 1192))) = N_48 164 (85 * a1 + 4 * (M 164 (85 * a1 + 1192)) + 1194) := by rw [show 1194 + 85 * a1 + 4 * (M 164 (85 * a1 + 1192)) = 85 * a1 + 4 * (M 164 (85 * a1 + 1192)) + 1194 by omega, hM_N_88, mu_i (by omega), hM_N_68, mu_i (by omega), hM_N_66, mu_i (by omega), hx_N_58 _ (by omega)]
                        have e_99 : N_88 164 (1195 + 85 * a1 + 4 * (M 164 (85 * a1 + 1192))) = N_58 164 (85 * a1 + 4 * (M 164 (85 * a1 + 1192)) + 1195) := by rw [show 1195 + 85 * a1 + 4 * (M 164 (85 * a1 + 1192)) = 85 * a1 + 4 * (M 164 (85 * a1 + 1192)) + 1195 by omega, hM_N_88, mu_i (by omega), hM_N_68, mu_i (by omega), hM_N_66, mu_i (by omega)]
                        exact kx_zret F hQ (by omega) ⟨hI_N_88, hF_N_88, (by omega), ⟨(LO.sta (LO.sta (LO.sta (LO.ne (LO.ne (LO.fr (LO.fr (LO.rf M) hG_N_12 rfl) hG_N_38 rfl) hx_N_48 (by omega)) hx_N_58 (by omega)) hM_N_66 (by omega)) hM_N_68 (by omega)) hM_N_88 (by omega)), (fun _ => (R4.rule hR hI_M a1 (M 164 (85 * a1 + 1192)) (by omega) (by omega) (fun j hj h0 => by rw [hM_N_88, mu_i (by omega), hM_N_68, mu_i (by omega), hM_N_66, mu_i (by omega), hx_N_58 _ (by omega), hx_N_48 _ (by omega), Fr.e hG_N_38 kd_164 _ rfl, Fr.e hG_N_12 kd_164 _ rfl]) (by omega) (by omega) (by omega)))⟩⟩ dX12_aRule_319
                      · refine kx_aload_n 301 F 0 dX12_aRule_300 rfl rfl rfl ?_
                        refine kx_iconst 302 F dX12_aRule_301 rfl ?_
                        refine kx_Vi 305 (ci := 0) F (As := [vI 5]) (st := []) vd_X12_205 (c_X12_fails G l N_68 5 hI_N_68 (by omega)) kd_163 rfl rfl rfl ⟨by decide, by decide⟩ rfl rfl (Nat.le_of_ble_eq_true rfl) dX12_aRule_302 rfl ?_
                        intro r_100 N_101 q_102
                        obtain ⟨hI_N_101, hG_N_101, q_102c⟩ := q_102
                        have hF_N_101 : Fr f_c_X12_aRule M N_101 := Fr.c hF_N_68 hG_N_101 rfl
                        have h_103 := Inv.g hI_N_101 kd_163 rfl 18 (a := (-2147483648)) (b := 2147483647) rfl rfl
                        have e_104 : (N_101 163 14) = (N_58 163 14) := by rw [Fr.e hG_N_101 kd_163 _ rfl, hM_N_68, mu_k kd_163 kd_164 rfl, hM_N_66, mu_k kd_163 kd_164 rfl]
                        have e_105 : (N_101 163 12) = (N_58 163 12) := by rw [Fr.e hG_N_101 kd_163 _ rfl, hM_N_68, mu_k kd_163 kd_164 rfl, hM_N_66, mu_k kd_163 kd_164 rfl]
                        have e_106 : (N_101 163 14) = (N_58 163 14) := by rw [Fr.e hG_N_101 kd_163 _ rfl, hM_N_68, mu_k kd_163 kd_164 rfl, hM_N_66, mu_k kd_163 kd_164 rfl]
                        have e_107 : (N_101 163 12) = (N_58 163 12) := by rw [Fr.e hG_N_101 kd_163 _ rfl, hM_N_68, mu_k kd_163 kd_164 rfl, hM_N_66, mu_k kd_163 kd_164 rfl]
                        exact kx_zret F hQ (by omega) ⟨hI_N_101, hF_N_101, (by omega), ⟨(LO.fr (LO.sta (LO.sta (LO.ne (LO.ne (LO.fr (LO.fr (LO.rf M) hG_N_12 rfl) hG_N_38 rfl) hx_N_48 (by omega)) hx_N_58 (by omega)) hM_N_66 (by omega)) hM_N_68 (by omega)) hG_N_101 rfl), (fun h => absurd h (by omega))⟩⟩ dX12_aRule_305
                    · refine kx_if_eq 259 F 306 dX12_aRule_256 (by decide) rfl (by omega) (fun h_108 => ?_) (fun h_108 => (by exfalso; omega))
                      refine kx_aload_n 307 F 0 dX12_aRule_306 rfl rfl rfl ?_
                      refine kx_getr 310 F fl_X12_7 kd_163 rfl rfl (j := 0) rfl dX12_aRule_307 (v := 164) (uq_164 (Inv.r hI_N_68 kd_163 rfl 0 rfl rfl)) rfl ?_
                      refine kx_iload_n 311 F 2 dX12_aRule_310 rfl rfl rfl ?_
                      refine kx_iconst 312 F dX12_aRule_311 rfl ?_
                      refine kx_iadd 313 F (v := 85 * a1 + 1192) dX12_aRule_312 (by omega) rfl ?_
                      refine kx_dup2 314 F dX12_aRule_313 rfl rfl rfl ?_
                      refine kx_iald 315 F kd_164 rfl rfl (by omega) (by decide) dX12_aRule_314 (v := (M 164 (85 * a1 + 1192))) (by rw [hM_N_68, mu_i (by omega), hM_N_66, mu_i (by omega), hx_N_58 _ (by omega), hx_N_48 _ (by omega), Fr.e hG_N_38 kd_164 _ rfl, Fr.e hG_N_12 kd_164 _ rfl]) rfl ?_
                      refine kx_iconst 316 F dX12_aRule_315 rfl ?_
                      refine kx_iadd 317 F (v := (M 164 (85 * a1 + 1192)) + 1) dX12_aRule_316 rfl rfl ?_
                      refine kx_iast 318 F kd_164 rfl rfl (by omega) (by decide) dX12_aRule_317 rfl ?_
                      intro N_109 hM_N_109
                      have hI_N_109 : Inv true N_109 := Inv.u hI_N_68 hM_N_109 kd_164 (a := 0) (b := 20) ha_6.1 ha_6.2 rfl (by omega)
                      have hF_N_109 : Fr f_c_X12_aRule M N_109 := Fr.u hF_N_68 hM_N_109 kd_164 rfl
                      refine kx_iconst 319 F dX12_aRule_318 rfl ?_
                      have e_110 : (N_109 163 14) = (N_58 163 14) := by rw [hM_N_109, mu_k kd_163 kd_164 rfl, hM_N_68, mu_k kd_163 kd_164 rfl, hM_N_66, mu_k kd_163 kd_164 rfl]
                      have e_111 : (N_109 163 12) = (N_58 163 12) := by rw [hM_N_109, mu_k kd_163 kd_164 rfl, hM_N_68, mu_k kd_163 kd_164 rfl, hM_N_66, mu_k kd_163 kd_164 rfl]
                      have e_112 : (N_109 163 14) = (N_58 163 14) := by rw [hM_N_109, mu_k kd_163 kd_164 rfl, hM_N_68, mu_k kd_163 kd_164 rfl, hM_N_66, mu_k kd_163 kd_164 rfl]
                      have e_113 : (N_109 163 12) = (N_58 163 12) := by rw [hM_N_109, mu_k kd_163 kd_164 rfl, hM_N_68, mu_k kd_163 kd_164 rfl, hM_N_66, mu_k kd_163 kd_164 rfl]
                      have e_114 : (N_109 163 18) = (N_58 163 18) := by rw [hM_N_109, mu_k kd_163 kd_164 rfl, hM_N_68, mu_k kd_163 kd_164 rfl, hM_N_66, mu_k kd_163 kd_164 rfl]
                      have h_115 := Inv.g hI_N_58 kd_163 rfl 18 (a := (-2147483648)) (b := 2147483647) rfl rfl
                      have e_116 : M 164 (1192 + 85 * a1) = M 164 (85 * a1 + 1192) := by rw [show 1192 + 85 * a1 = 85 * a1 + 1192 by omega]
                      have e_117 : M 164 (1188 + 85 * a1) = M 164 (85 * a1 + 1188) := by rw [show 1188 + 85 * a1 = 85 * a1 + 1188 by omega]
                      have e_118 : N_109 164 (1192 + 85 * a1) = (M 164 (85 * a1 + 1192)) + 1 := by rw [show 1192 + 85 * a1 = 85 * a1 + 1192 by omega, hM_N_109, mu_s]
                      have e_119 : N_109 164 (1194 + 85 * a1 + 4 * (M 164 (85 * a1 + 1192))) = N_48 164 (85 * a1 + 4 * (M 164 (85 * a1 + 1192)) + 1194) := by rw [show 1194 + 85 * a1 + 4 * (M 164 (85 * a1 + 1192)) = 85 * a1 + 4 * (M 164 (85 * a1 + 1192)) + 1194 by omega, hM_N_109, mu_i (by omega), hM_N_68, mu_i (by omega), hM_N_66, mu_i (by omega), hx_N_58 _ (by omega)]
                      have e_120 : N_109 164 (1195 + 85 * a1 + 4 * (M 164 (85 * a1 + 1192))) = N_58 164 (85 * a1 + 4 * (M 164 (85 * a1 + 1192)) + 1195) := by rw [show 1195 + 85 * a1 + 4 * (M 164 (85 * a1 + 1192)) = 85 * a1 + 4 * (M 164 (85 * a1 + 1192)) + 1195 by omega, hM_N_109, mu_i (by omega), hM_N_68, mu_i (by omega), hM_N_66, mu_i (by omega)]
                      exact kx_zret F hQ (by omega) ⟨hI_N_109, hF_N_109, (by omega), ⟨(LO.sta (LO.sta (LO.sta (LO.ne (LO.ne (LO.fr (LO.fr (LO.rf M) hG_N_12 rfl) hG_N_38 rfl) hx_N_48 (by omega)) hx_N_58 (by omega)) hM_N_66 (by omega)) hM_N_68 (by omega)) hM_N_109 (by omega)), (fun _ => (R4.rule hR hI_M a1 (M 164 (85 * a1 + 1192)) (by omega) (by omega) (fun j hj h0 => by rw [hM_N_109, mu_i (by omega), hM_N_68, mu_i (by omega), hM_N_66, mu_i (by omega), hx_N_58 _ (by omega), hx_N_48 _ (by omega), Fr.e hG_N_38 kd_164 _ rfl, Fr.e hG_N_12 kd_164 _ rfl]) (by omega) (by omega) (by omega)))⟩⟩ dX12_aRule_319
                  · refine kx_aload_n 178 F 0 dX12_aRule_177 rfl rfl rfl ?_
                    refine kx_bipush 180 F dX12_aRule_178 (by decide) rfl ?_
                    refine kx_Vi 183 (ci := 0) F (As := [vI 10]) (st := []) vd_X12_250 (c_X12_isThere G l N_68 10 hI_N_68 (by omega)) kd_163 rfl rfl rfl ⟨by decide, by decide⟩ rfl rfl (Nat.le_of_ble_eq_true rfl) dX12_aRule_180 rfl ?_
                    intro r_121 N_122 q_123
                    obtain ⟨hI_N_122, hG_N_122, q_123c⟩ := q_123
                    have hF_N_122 : Fr f_c_X12_aRule M N_122 := Fr.c hF_N_68 hG_N_122 rfl
                    have e_124 : (N_68 163 14) = (N_58 163 14) := by rw [hM_N_68, mu_k kd_163 kd_164 rfl, hM_N_66, mu_k kd_163 kd_164 rfl]
                    have e_125 : (N_68 163 12) = (N_58 163 12) := by rw [hM_N_68, mu_k kd_163 kd_164 rfl, hM_N_66, mu_k kd_163 kd_164 rfl]
                    have h_126 := Inv.g hI_N_122 kd_163 rfl 14 (a := 0) (b := 900) rfl rfl
                    have h_127 := Inv.g hI_N_122 kd_163 rfl 12 (a := 0) (b := 4) rfl rfl
                    have e_128 : (N_68 163 14) = (N_58 163 14) := by rw [hM_N_68, mu_k kd_163 kd_164 rfl, hM_N_66, mu_k kd_163 kd_164 rfl]
                    have e_129 : (N_68 163 12) = (N_58 163 12) := by rw [hM_N_68, mu_k kd_163 kd_164 rfl, hM_N_66, mu_k kd_163 kd_164 rfl]
                    have h_130 := Inv.g hI_N_122 kd_163 rfl 14 (a := 0) (b := 900) rfl rfl
                    have h_131 := Inv.g hI_N_122 kd_163 rfl 12 (a := 0) (b := 4) rfl rfl
                    rcases q_123c with q_123c | q_123c
                    · refine kx_if_ne 186 F 221 dX12_aRule_183 (by decide) rfl (by omega) (fun h_132 => ?_) (fun h_132 => (by exfalso; omega))
                      refine kx_iload 223 F 6 dX12_aRule_221 rfl rfl ?_
                      refine kx_if_ne 226 F 250 dX12_aRule_223 (by decide) rfl (by omega) (fun h_133 => ?_) (fun h_133 => (by exfalso; omega))
                      refine kx_aload_n 251 F 0 dX12_aRule_250 rfl rfl rfl ?_
                      refine kx_bipush 253 F dX12_aRule_251 (by decide) rfl ?_
                      refine kx_Vi 256 (ci := 0) F (As := [vI 59]) (st := []) vd_X12_202 (c_X12_isSign G l N_122 59 hI_N_122 (by omega)) kd_163 rfl rfl rfl ⟨by decide, by decide⟩ rfl rfl (Nat.le_of_ble_eq_true rfl) dX12_aRule_253 rfl ?_
                      intro r_134 N_135 q_136
                      obtain ⟨rfl, q_136c⟩ := q_136
                      rcases q_136c with q_136c | q_136c
                      · refine kx_if_eq 259 F 306 dX12_aRule_256 (by decide) rfl (by omega) (fun h_137 => (by exfalso; omega)) (fun h_137 => ?_)
                        refine kx_aload_n 260 F 0 dX12_aRule_259 rfl rfl rfl ?_
                        refine kx_sipush 263 F dX12_aRule_260 (by decide) rfl ?_
                        refine kx_iload_n 264 F 1 dX12_aRule_263 rfl rfl rfl ?_
                        refine kx_iload_n 265 F 3 dX12_aRule_264 rfl rfl rfl ?_
                        refine kx_iload 267 F 5 dX12_aRule_265 rfl rfl ?_
                        refine kx_aload_n 268 F 0 dX12_aRule_267 rfl rfl rfl ?_
                        refine kx_getr 271 F fl_X12_7 kd_163 rfl rfl (j := 0) rfl dX12_aRule_268 (v := 164) (uq_164 (Inv.r hI_N_122 kd_163 rfl 0 rfl rfl)) rfl ?_
                        refine kx_iload 273 F 4 dX12_aRule_271 rfl rfl ?_
                        refine kx_iconst 274 F dX12_aRule_273 rfl ?_
                        refine kx_iadd 275 F (v := 85 * a1 + 4 * (M 164 (85 * a1 + 1192)) + 1194) dX12_aRule_274 (by omega) rfl ?_
                        refine kx_iald 276 F kd_164 rfl rfl (by omega) (by decide) dX12_aRule_275 (v := (N_48 164 (85 * a1 + 4 * (M 164 (85 * a1 + 1192)) + 1194))) (by rw [Fr.e hG_N_122 kd_164 _ rfl, hM_N_68, mu_i (by omega), hM_N_66, mu_i (by omega), hx_N_58 _ (by omega)]) rfl ?_
                        have h_138 := Inv.g hI_N_48 kd_164 rfl (85 * a1 + 4 * (M 164 (85 * a1 + 1192)) + 1194) (a := 0) (b := 2) ha_46.1 ha_46.2
                        refine kx_aload_n 277 F 0 dX12_aRule_276 rfl rfl rfl ?_
                        refine kx_getr 280 F fl_X12_7 kd_163 rfl rfl (j := 0) rfl dX12_aRule_277 (v := 164) (uq_164 (Inv.r hI_N_122 kd_163 rfl 0 rfl rfl)) rfl ?_
                        refine kx_iload 282 F 4 dX12_aRule_280 rfl rfl ?_
                        refine kx_iconst 283 F dX12_aRule_282 rfl ?_
                        refine kx_iadd 284 F (v := 85 * a1 + 4 * (M 164 (85 * a1 + 1192)) + 1195) dX12_aRule_283 (by omega) rfl ?_
                        refine kx_iald 285 F kd_164 rfl rfl (by omega) (by decide) dX12_aRule_284 (v := (N_58 164 (85 * a1 + 4 * (M 164 (85 * a1 + 1192)) + 1195))) (by rw [Fr.e hG_N_122 kd_164 _ rfl, hM_N_68, mu_i (by omega), hM_N_66, mu_i (by omega)]) rfl ?_
                        have h_139 := Inv.g hI_N_58 kd_164 rfl (85 * a1 + 4 * (M 164 (85 * a1 + 1192)) + 1195) (a := 0) (b := 2) ha_56.1 ha_56.2
                        refine kx_aload_n 286 F 0 dX12_aRule_285 rfl rfl rfl ?_
                        refine kx_getr 289 F fl_X12_7 kd_163 rfl rfl (j := 0) rfl dX12_aRule_286 (v := 164) (uq_164 (Inv.r hI_N_122 kd_163 rfl 0 rfl rfl)) rfl ?_
                        refine kx_iload 291 F 4 dX12_aRule_289 rfl rfl ?_
                        refine kx_iconst 292 F dX12_aRule_291 rfl ?_
                        refine kx_iadd 293 F (v := 85 * a1 + 4 * (M 164 (85 * a1 + 1192)) + 1196) dX12_aRule_292 (by omega) rfl ?_
                        refine kx_iald 294 F kd_164 rfl rfl (by omega) (by decide) dX12_aRule_293 (v := -1) (by rw [Fr.e hG_N_122 kd_164 _ rfl, hM_N_68, mu_s]) rfl ?_
                        refine kx_Vi 297 (ci := 0) F (As := [vI 1088, vI a1, vI (M 164 (85 * a1 + 1192)), vI r_34, vI (N_48 164 (85 * a1 + 4 * (M 164 (85 * a1 + 1192)) + 1194)), vI (N_58 164 (85 * a1 + 4 * (M 164 (85 * a1 + 1192)) + 1195)), vI (-1)]) (st := []) vd_X12_253 (c_isRuleN G l N_122 1088 a1 (M 164 (85 * a1 + 1192)) r_34 (N_48 164 (85 * a1 + 4 * (M 164 (85 * a1 + 1192)) + 1194)) (N_58 164 (85 * a1 + 4 * (M 164 (85 * a1 + 1192)) + 1195)) (-1) hI_N_122 (by omega)) kd_163 rfl rfl rfl ⟨by decide, by decide⟩ rfl rfl (Nat.le_of_ble_eq_true rfl) dX12_aRule_294 rfl ?_
                        intro r_140 N_141 q_142
                        obtain ⟨rfl, q_142c⟩ := q_142
                        refine kx_if_eq 300 F 306 dX12_aRule_297 (by decide) rfl (by omega) (fun h_143 => ?_) (fun h_143 => ?_)
                        · refine kx_aload_n 307 F 0 dX12_aRule_306 rfl rfl rfl ?_
                          refine kx_getr 310 F fl_X12_7 kd_163 rfl rfl (j := 0) rfl dX12_aRule_307 (v := 164) (uq_164 (Inv.r hI_N_122 kd_163 rfl 0 rfl rfl)) rfl ?_
                          refine kx_iload_n 311 F 2 dX12_aRule_310 rfl rfl rfl ?_
                          refine kx_iconst 312 F dX12_aRule_311 rfl ?_
                          refine kx_iadd 313 F (v := 85 * a1 + 1192) dX12_aRule_312 (by omega) rfl ?_
                          refine kx_dup2 314 F dX12_aRule_313 rfl rfl rfl ?_
                          refine kx_iald 315 F kd_164 rfl rfl (by omega) (by decide) dX12_aRule_314 (v := (M 164 (85 * a1 + 1192))) (by rw [Fr.e hG_N_122 kd_164 _ rfl, hM_N_68, mu_i (by omega), hM_N_66, mu_i (by omega), hx_N_58 _ (by omega), hx_N_48 _ (by omega), Fr.e hG_N_38 kd_164 _ rfl, Fr.e hG_N_12 kd_164 _ rfl]) rfl ?_
                          refine kx_iconst 316 F dX12_aRule_315 rfl ?_
                          refine kx_iadd 317 F (v := (M 164 (85 * a1 + 1192)) + 1) dX12_aRule_316 rfl rfl ?_
                          refine kx_iast 318 F kd_164 rfl rfl (by omega) (by decide) dX12_aRule_317 rfl ?_
                          intro N_144 hM_N_144
                          have hI_N_144 : Inv true N_144 := Inv.u hI_N_122 hM_N_144 kd_164 (a := 0) (b := 20) ha_6.1 ha_6.2 rfl (by omega)
                          have hF_N_144 : Fr f_c_X12_aRule M N_144 := Fr.u hF_N_122 hM_N_144 kd_164 rfl
                          refine kx_iconst 319 F dX12_aRule_318 rfl ?_
                          have e_145 : (N_144 163 14) = (N_122 163 14) := by rw [hM_N_144, mu_k kd_163 kd_164 rfl]
                          have e_146 : (N_144 163 12) = (N_122 163 12) := by rw [hM_N_144, mu_k kd_163 kd_164 rfl]
                          have e_147 : (N_144 163 14) = (N_122 163 14) := by rw [hM_N_144, mu_k kd_163 kd_164 rfl]
                          have e_148 : (N_144 163 12) = (N_122 163 12) := by rw [hM_N_144, mu_k kd_163 kd_164 rfl]
                          have e_149 : (N_144 163 18) = (N_58 163 18) := by rw [hM_N_144, mu_k kd_163 kd_164 rfl, Fr.e hG_N_122 kd_163 _ rfl, hM_N_68, mu_k kd_163 kd_164 rfl, hM_N_66, mu_k kd_163 kd_164 rfl]
                          have h_150 := Inv.g hI_N_58 kd_163 rfl 18 (a := (-2147483648)) (b := 2147483647) rfl rfl
                          have e_151 : M 164 (1192 + 85 * a1) = M 164 (85 * a1 + 1192) := by rw [show 1192 + 85 * a1 = 85 * a1 + 1192 by omega]
                          have e_152 : M 164 (1188 + 85 * a1) = M 164 (85 * a1 + 1188) := by rw [show 1188 + 85 * a1 = 85 * a1 + 1188 by omega]
                          have e_153 : N_144 164 (1192 + 85 * a1) = (M 164 (85 * a1 + 1192)) + 1 := by rw [show 1192 + 85 * a1 = 85 * a1 + 1192 by omega, hM_N_144, mu_s]
                          have e_154 : N_144 164 (1194 + 85 * a1 + 4 * (M 164 (85 * a1 + 1192))) = N_48 164 (85 * a1 + 4 * (M 164 (85 * a1 + 1192)) + 1194) := by rw [show 1194 + 85 * a1 + 4 * (M 164 (85 * a1 + 1192)) = 85 * a1 + 4 * (M 164 (85 * a1 + 1192)) + 1194 by omega, hM_N_144, mu_i (by omega), Fr.e hG_N_122 kd_164 _ rfl, hM_N_68, mu_i (by omega), hM_N_66, mu_i (by omega), hx_N_58 _ (by omega)]
                          have e_155 : N_144 164 (1195 + 85 * a1 + 4 * (M 164 (85 * a1 + 1192))) = N_58 164 (85 * a1 + 4 * (M 164 (85 * a1 + 1192)) + 1195) := by rw [show 1195 + 85 * a1 + 4 * (M 164 (85 * a1 + 1192)) = 85 * a1 + 4 * (M 164 (85 * a1 + 1192)) + 1195 by omega, hM_N_144, mu_i (by omega), Fr.e hG_N_122 kd_164 _ rfl, hM_N_68, mu_i (by omega), hM_N_66, mu_i (by omega)]
                          exact kx_zret F hQ (by omega) ⟨hI_N_144, hF_N_144, (by omega), ⟨(LO.sta (LO.fr (LO.sta (LO.sta (LO.ne (LO.ne (LO.fr (LO.fr (LO.rf M) hG_N_12 rfl) hG_N_38 rfl) hx_N_48 (by omega)) hx_N_58 (by omega)) hM_N_66 (by omega)) hM_N_68 (by omega)) hG_N_122 rfl) hM_N_144 (by omega)), (fun _ => (R4.rule hR hI_M a1 (M 164 (85 * a1 + 1192)) (by omega) (by omega) (fun j hj h0 => by rw [hM_N_144, mu_i (by omega), Fr.e hG_N_122 kd_164 _ rfl, hM_N_68, mu_i (by omega), hM_N_66, mu_i (by omega), hx_N_58 _ (by omega), hx_N_48 _ (by omega), Fr.e hG_N_38 kd_164 _ rfl, Fr.e hG_N_12 kd_164 _ rfl]) (by omega) (by omega) (by omega)))⟩⟩ dX12_aRule_319
                        · refine kx_aload_n 301 F 0 dX12_aRule_300 rfl rfl rfl ?_
                          refine kx_iconst 302 F dX12_aRule_301 rfl ?_
                          refine kx_Vi 305 (ci := 0) F (As := [vI 5]) (st := []) vd_X12_205 (c_X12_fails G l N_122 5 hI_N_122 (by omega)) kd_163 rfl rfl rfl ⟨by decide, by decide⟩ rfl rfl (Nat.le_of_ble_eq_true rfl) dX12_aRule_302 rfl ?_
                          intro r_156 N_157 q_158
                          obtain ⟨hI_N_157, hG_N_157, q_158c⟩ := q_158
                          have hF_N_157 : Fr f_c_X12_aRule M N_157 := Fr.c hF_N_122 hG_N_157 rfl
                          have h_159 := Inv.g hI_N_157 kd_163 rfl 18 (a := (-2147483648)) (b := 2147483647) rfl rfl
                          have e_160 : (N_157 163 14) = (N_122 163 14) := by rw [Fr.e hG_N_157 kd_163 _ rfl]
                          have e_161 : (N_157 163 12) = (N_122 163 12) := by rw [Fr.e hG_N_157 kd_163 _ rfl]
                          have e_162 : (N_157 163 14) = (N_122 163 14) := by rw [Fr.e hG_N_157 kd_163 _ rfl]
                          have e_163 : (N_157 163 12) = (N_122 163 12) := by rw [Fr.e hG_N_157 kd_163 _ rfl]
                          exact kx_zret F hQ (by omega) ⟨hI_N_157, hF_N_157, (by omega), ⟨(LO.fr (LO.fr (LO.sta (LO.sta (LO.ne (LO.ne (LO.fr (LO.fr (LO.rf M) hG_N_12 rfl) hG_N_38 rfl) hx_N_48 (by omega)) hx_N_58 (by omega)) hM_N_66 (by omega)) hM_N_68 (by omega)) hG_N_122 rfl) hG_N_157 rfl), (fun h => absurd h (by omega))⟩⟩ dX12_aRule_305
                      · refine kx_if_eq 259 F 306 dX12_aRule_256 (by decide) rfl (by omega) (fun h_164 => ?_) (fun h_164 => (by exfalso; omega))
                        refine kx_aload_n 307 F 0 dX12_aRule_306 rfl rfl rfl ?_
                        refine kx_getr 310 F fl_X12_7 kd_163 rfl rfl (j := 0) rfl dX12_aRule_307 (v := 164) (uq_164 (Inv.r hI_N_122 kd_163 rfl 0 rfl rfl)) rfl ?_
                        refine kx_iload_n 311 F 2 dX12_aRule_310 rfl rfl rfl ?_
                        refine kx_iconst 312 F dX12_aRule_311 rfl ?_
                        refine kx_iadd 313 F (v := 85 * a1 + 1192) dX12_aRule_312 (by omega) rfl ?_
                        refine kx_dup2 314 F dX12_aRule_313 rfl rfl rfl ?_
                        refine kx_iald 315 F kd_164 rfl rfl (by omega) (by decide) dX12_aRule_314 (v := (M 164 (85 * a1 + 1192))) (by rw [Fr.e hG_N_122 kd_164 _ rfl, hM_N_68, mu_i (by omega), hM_N_66, mu_i (by omega), hx_N_58 _ (by omega), hx_N_48 _ (by omega), Fr.e hG_N_38 kd_164 _ rfl, Fr.e hG_N_12 kd_164 _ rfl]) rfl ?_
                        refine kx_iconst 316 F dX12_aRule_315 rfl ?_
                        refine kx_iadd 317 F (v := (M 164 (85 * a1 + 1192)) + 1) dX12_aRule_316 rfl rfl ?_
                        refine kx_iast 318 F kd_164 rfl rfl (by omega) (by decide) dX12_aRule_317 rfl ?_
                        intro N_165 hM_N_165
                        have hI_N_165 : Inv true N_165 := Inv.u hI_N_122 hM_N_165 kd_164 (a := 0) (b := 20) ha_6.1 ha_6.2 rfl (by omega)
                        have hF_N_165 : Fr f_c_X12_aRule M N_165 := Fr.u hF_N_122 hM_N_165 kd_164 rfl
                        refine kx_iconst 319 F dX12_aRule_318 rfl ?_
                        have e_166 : (N_165 163 14) = (N_122 163 14) := by rw [hM_N_165, mu_k kd_163 kd_164 rfl]
                        have e_167 : (N_165 163 12) = (N_122 163 12) := by rw [hM_N_165, mu_k kd_163 kd_164 rfl]
                        have e_168 : (N_165 163 14) = (N_122 163 14) := by rw [hM_N_165, mu_k kd_163 kd_164 rfl]
                        have e_169 : (N_165 163 12) = (N_122 163 12) := by rw [hM_N_165, mu_k kd_163 kd_164 rfl]
                        have e_170 : (N_165 163 18) = (N_58 163 18) := by rw [hM_N_165, mu_k kd_163 kd_164 rfl, Fr.e hG_N_122 kd_163 _ rfl, hM_N_68, mu_k kd_163 kd_164 rfl, hM_N_66, mu_k kd_163 kd_164 rfl]
                        have h_171 := Inv.g hI_N_58 kd_163 rfl 18 (a := (-2147483648)) (b := 2147483647) rfl rfl
                        have e_172 : M 164 (1192 + 85 * a1) = M 164 (85 * a1 + 1192) := by rw [show 1192 + 85 * a1 = 85 * a1 + 1192 by omega]
                        have e_173 : M 164 (1188 + 85 * a1) = M 164 (85 * a1 + 1188) := by rw [show 1188 + 85 * a1 = 85 * a1 + 1188 by omega]
                        have e_174 : N_165 164 (1192 + 85 * a1) = (M 164 (85 * a1 + 1192)) + 1 := by rw [show 1192 + 85 * a1 = 85 * a1 + 1192 by omega, hM_N_165, mu_s]
                        have e_175 : N_165 164 (1194 + 85 * a1 + 4 * (M 164 (85 * a1 + 1192))) = N_48 164 (85 * a1 + 4 * (M 164 (85 * a1 + 1192)) + 1194) := by rw [show 1194 + 85 * a1 + 4 * (M 164 (85 * a1 + 1192)) = 85 * a1 + 4 * (M 164 (85 * a1 + 1192)) + 1194 by omega, hM_N_165, mu_i (by omega), Fr.e hG_N_122 kd_164 _ rfl, hM_N_68, mu_i (by omega), hM_N_66, mu_i (by omega), hx_N_58 _ (by omega)]
                        have e_176 : N_165 164 (1195 + 85 * a1 + 4 * (M 164 (85 * a1 + 1192))) = N_58 164 (85 * a1 + 4 * (M 164 (85 * a1 + 1192)) + 1195) := by rw [show 1195 + 85 * a1 + 4 * (M 164 (85 * a1 + 1192)) = 85 * a1 + 4 * (M 164 (85 * a1 + 1192)) + 1195 by omega, hM_N_165, mu_i (by omega), Fr.e hG_N_122 kd_164 _ rfl, hM_N_68, mu_i (by omega), hM_N_66, mu_i (by omega)]
                        exact kx_zret F hQ (by omega) ⟨hI_N_165, hF_N_165, (by omega), ⟨(LO.sta (LO.fr (LO.sta (LO.sta (LO.ne (LO.ne (LO.fr (LO.fr (LO.rf M) hG_N_12 rfl) hG_N_38 rfl) hx_N_48 (by omega)) hx_N_58 (by omega)) hM_N_66 (by omega)) hM_N_68 (by omega)) hG_N_122 rfl) hM_N_165 (by omega)), (fun _ => (R4.rule hR hI_M a1 (M 164 (85 * a1 + 1192)) (by omega) (by omega) (fun j hj h0 => by rw [hM_N_165, mu_i (by omega), Fr.e hG_N_122 kd_164 _ rfl, hM_N_68, mu_i (by omega), hM_N_66, mu_i (by omega), hx_N_58 _ (by omega), hx_N_48 _ (by omega), Fr.e hG_N_38 kd_164 _ rfl, Fr.e hG_N_12 kd_164 _ rfl]) (by omega) (by omega) (by omega)))⟩⟩ dX12_aRule_319
                    · refine kx_if_ne 186 F 221 dX12_aRule_183 (by decide) rfl (by omega) (fun h_177 => (by exfalso; omega)) (fun h_177 => ?_)
                      refine kx_aload_n 187 F 0 dX12_aRule_186 rfl rfl rfl ?_
                      refine kx_ldcS 189 F 11 (by decide) rfl rfl dX12_aRule_187 rfl ?_
                      refine kx_bipush 191 F dX12_aRule_189 (by decide) rfl ?_
                      refine kx_Vi 194 (ci := 0) F (As := [vT G 11, vI 9]) (st := []) vd_X12_235 (c_X12_wantWord G l N_122 9 hI_N_122 (by omega)) kd_163 rfl rfl rfl ⟨by decide, by decide⟩ rfl rfl (Nat.le_of_ble_eq_true rfl) dX12_aRule_191 rfl ?_
                      intro r_178 N_179 q_180
                      obtain ⟨hI_N_179, hG_N_179, q_180c⟩ := q_180
                      have hF_N_179 : Fr f_c_X12_aRule M N_179 := Fr.c hF_N_122 hG_N_179 rfl
                      have h_181 := Inv.g hI_N_179 kd_163 rfl 14 (a := 0) (b := 900) rfl rfl
                      have h_182 := Inv.g hI_N_179 kd_163 rfl 12 (a := 0) (b := 4) rfl rfl
                      have h_183 := Inv.g hI_N_179 kd_163 rfl 14 (a := 0) (b := 900) rfl rfl
                      have h_184 := Inv.g hI_N_179 kd_163 rfl 12 (a := 0) (b := 4) rfl rfl
                      have h_185 := Inv.g hI_N_179 kd_163 rfl 18 (a := (-2147483648)) (b := 2147483647) rfl rfl
                      rcases q_180c with q_180c | q_180c
                      · refine kx_if_eq 197 F 219 dX12_aRule_194 (by decide) rfl (by omega) (fun h_186 => (by exfalso; omega)) (fun h_186 => ?_)
                        refine kx_aload_n 198 F 0 dX12_aRule_197 rfl rfl rfl ?_
                        refine kx_iload 200 F 4 dX12_aRule_198 rfl rfl ?_
                        refine kx_iconst 201 F dX12_aRule_200 rfl ?_
                        refine kx_iadd 202 F (v := 85 * a1 + 4 * (M 164 (85 * a1 + 1192)) + 1196) dX12_aRule_201 (by omega) rfl ?_
                        refine kx_iconst 203 F dX12_aRule_202 rfl ?_
                        refine kx_aload_n 204 F 0 dX12_aRule_203 rfl rfl rfl ?_
                        refine kx_getr 207 F fl_X12_7 kd_163 rfl rfl (j := 0) rfl dX12_aRule_204 (v := 164) (uq_164 (Inv.r hI_N_179 kd_163 rfl 0 rfl rfl)) rfl ?_
                        refine kx_iload_n 208 F 2 dX12_aRule_207 rfl rfl rfl ?_
                        refine kx_iconst 209 F dX12_aRule_208 rfl ?_
                        refine kx_iadd 210 F (v := 85 * a1 + 1189) dX12_aRule_209 (by omega) rfl ?_
                        refine kx_iald 211 F kd_164 rfl rfl (by omega) (by decide) dX12_aRule_210 (v := (M 164 (85 * a1 + 1189))) (by rw [Fr.e hG_N_179 kd_164 _ rfl, Fr.e hG_N_122 kd_164 _ rfl, hM_N_68, mu_i (by omega), hM_N_66, mu_i (by omega), hx_N_58 _ (by omega), hx_N_48 _ (by omega), Fr.e hG_N_38 kd_164 _ rfl, Fr.e hG_N_12 kd_164 _ rfl]) rfl ?_
                        have ha_187 : atlo (85 * a1 + 1189) = 0 ∧ athi (85 * a1 + 1189) = 3 := at_a (85 * a1 + 1189) 4 a1 1 (by omega) (by omega) (by decide)
                        have h_188 := Inv.g hI_M kd_164 rfl (85 * a1 + 1189) (a := 0) (b := 3) ha_187.1 ha_187.2
                        refine kx_iconst 212 F dX12_aRule_211 rfl ?_
                        refine kx_isub 213 F (v := (M 164 (85 * a1 + 1189)) - 1) dX12_aRule_212 rfl rfl ?_
                        refine kx_Vi 216 (ci := 0) F (As := [vI (85 * a1 + 4 * (M 164 (85 * a1 + 1192)) + 1196), vI 0, vI ((M 164 (85 * a1 + 1189)) - 1)]) (st := []) vd_X12_231 (c_X12_number G l N_179 (85 * a1 + 4 * (M 164 (85 * a1 + 1192)) + 1196) 0 ((M 164 (85 * a1 + 1189)) - 1) hI_N_179 (by omega)) kd_163 rfl rfl rfl ⟨by decide, by decide⟩ rfl rfl (Nat.le_of_ble_eq_true rfl) dX12_aRule_213 rfl ?_
                        intro r_189 N_190 q_191
                        obtain ⟨hI_N_190, hG_N_190, q_191c, hx_N_190⟩ := q_191
                        have hF_N_190 : Fr f_c_X12_aRule M N_190 := Fr.c hF_N_179 hG_N_190 rfl
                        have h_192 := Inv.g hI_N_190 kd_163 rfl 14 (a := 0) (b := 900) rfl rfl
                        have h_193 := Inv.g hI_N_190 kd_163 rfl 12 (a := 0) (b := 4) rfl rfl
                        have h_194 := Inv.g hI_N_190 kd_163 rfl 14 (a := 0) (b := 900) rfl rfl
                        have h_195 := Inv.g hI_N_190 kd_163 rfl 12 (a := 0) (b := 4) rfl rfl
                        have h_196 := Inv.g hI_N_190 kd_163 rfl 18 (a := (-2147483648)) (b := 2147483647) rfl rfl
                        rcases q_191c with q_191c | q_191c
                        · refine kx_if_ne 219 F 221 dX12_aRule_216 (by decide) rfl (by omega) (fun h_197 => ?_) (fun h_197 => (by exfalso; omega))
                          refine kx_iload 223 F 6 dX12_aRule_221 rfl rfl ?_
                          refine kx_if_ne 226 F 250 dX12_aRule_223 (by decide) rfl (by omega) (fun h_198 => ?_) (fun h_198 => (by exfalso; omega))
                          refine kx_aload_n 251 F 0 dX12_aRule_250 rfl rfl rfl ?_
                          refine kx_bipush 253 F dX12_aRule_251 (by decide) rfl ?_
                          refine kx_Vi 256 (ci := 0) F (As := [vI 59]) (st := []) vd_X12_202 (c_X12_isSign G l N_190 59 hI_N_190 (by omega)) kd_163 rfl rfl rfl ⟨by decide, by decide⟩ rfl rfl (Nat.le_of_ble_eq_true rfl) dX12_aRule_253 rfl ?_
                          intro r_199 N_200 q_201
                          obtain ⟨rfl, q_201c⟩ := q_201
                          rcases q_201c with q_201c | q_201c
                          · refine kx_if_eq 259 F 306 dX12_aRule_256 (by decide) rfl (by omega) (fun h_202 => (by exfalso; omega)) (fun h_202 => ?_)
                            refine kx_aload_n 260 F 0 dX12_aRule_259 rfl rfl rfl ?_
                            refine kx_sipush 263 F dX12_aRule_260 (by decide) rfl ?_
                            refine kx_iload_n 264 F 1 dX12_aRule_263 rfl rfl rfl ?_
                            refine kx_iload_n 265 F 3 dX12_aRule_264 rfl rfl rfl ?_
                            refine kx_iload 267 F 5 dX12_aRule_265 rfl rfl ?_
                            refine kx_aload_n 268 F 0 dX12_aRule_267 rfl rfl rfl ?_
                            refine kx_getr 271 F fl_X12_7 kd_163 rfl rfl (j := 0) rfl dX12_aRule_268 (v := 164) (uq_164 (Inv.r hI_N_190 kd_163 rfl 0 rfl rfl)) rfl ?_
                            refine kx_iload 273 F 4 dX12_aRule_271 rfl rfl ?_
                            refine kx_iconst 274 F dX12_aRule_273 rfl ?_
                            refine kx_iadd 275 F (v := 85 * a1 + 4 * (M 164 (85 * a1 + 1192)) + 1194) dX12_aRule_274 (by omega) rfl ?_
                            refine kx_iald 276 F kd_164 rfl rfl (by omega) (by decide) dX12_aRule_275 (v := (N_48 164 (85 * a1 + 4 * (M 164 (85 * a1 + 1192)) + 1194))) (by rw [hx_N_190 _ (by omega), Fr.e hG_N_179 kd_164 _ rfl, Fr.e hG_N_122 kd_164 _ rfl, hM_N_68, mu_i (by omega), hM_N_66, mu_i (by omega), hx_N_58 _ (by omega)]) rfl ?_
                            have h_203 := Inv.g hI_N_48 kd_164 rfl (85 * a1 + 4 * (M 164 (85 * a1 + 1192)) + 1194) (a := 0) (b := 2) ha_46.1 ha_46.2
                            refine kx_aload_n 277 F 0 dX12_aRule_276 rfl rfl rfl ?_
                            refine kx_getr 280 F fl_X12_7 kd_163 rfl rfl (j := 0) rfl dX12_aRule_277 (v := 164) (uq_164 (Inv.r hI_N_190 kd_163 rfl 0 rfl rfl)) rfl ?_
                            refine kx_iload 282 F 4 dX12_aRule_280 rfl rfl ?_
                            refine kx_iconst 283 F dX12_aRule_282 rfl ?_
                            refine kx_iadd 284 F (v := 85 * a1 + 4 * (M 164 (85 * a1 + 1192)) + 1195) dX12_aRule_283 (by omega) rfl ?_
                            refine kx_iald 285 F kd_164 rfl rfl (by omega) (by decide) dX12_aRule_284 (v := (N_58 164 (85 * a1 + 4 * (M 164 (85 * a1 + 1192)) + 1195))) (by rw [hx_N_190 _ (by omega), Fr.e hG_N_179 kd_164 _ rfl, Fr.e hG_N_122 kd_164 _ rfl, hM_N_68, mu_i (by omega), hM_N_66, mu_i (by omega)]) rfl ?_
                            have h_204 := Inv.g hI_N_58 kd_164 rfl (85 * a1 + 4 * (M 164 (85 * a1 + 1192)) + 1195) (a := 0) (b := 2) ha_56.1 ha_56.2
                            refine kx_aload_n 286 F 0 dX12_aRule_285 rfl rfl rfl ?_
                            refine kx_getr 289 F fl_X12_7 kd_163 rfl rfl (j := 0) rfl dX12_aRule_286 (v := 164) (uq_164 (Inv.r hI_N_190 kd_163 rfl 0 rfl rfl)) rfl ?_
                            refine kx_iload 291 F 4 dX12_aRule_289 rfl rfl ?_
                            refine kx_iconst 292 F dX12_aRule_291 rfl ?_
                            refine kx_iadd 293 F (v := 85 * a1 + 4 * (M 164 (85 * a1 + 1192)) + 1196) dX12_aRule_292 (by omega) rfl ?_
                            refine kx_iald 294 F kd_164 rfl rfl (by omega) (by decide) dX12_aRule_293 (v := (N_190 164 (85 * a1 + 4 * (M 164 (85 * a1 + 1192)) + 1196))) rfl rfl ?_
                            have h_205 := Inv.g hI_N_190 kd_164 rfl (85 * a1 + 4 * (M 164 (85 * a1 + 1192)) + 1196) (a := (-1)) (b := 2) ha_69.1 ha_69.2
                            refine kx_Vi 297 (ci := 0) F (As := [vI 1088, vI a1, vI (M 164 (85 * a1 + 1192)), vI r_34, vI (N_48 164 (85 * a1 + 4 * (M 164 (85 * a1 + 1192)) + 1194)), vI (N_58 164 (85 * a1 + 4 * (M 164 (85 * a1 + 1192)) + 1195)), vI (N_190 164 (85 * a1 + 4 * (M 164 (85 * a1 + 1192)) + 1196))]) (st := []) vd_X12_253 (c_isRuleN G l N_190 1088 a1 (M 164 (85 * a1 + 1192)) r_34 (N_48 164 (85 * a1 + 4 * (M 164 (85 * a1 + 1192)) + 1194)) (N_58 164 (85 * a1 + 4 * (M 164 (85 * a1 + 1192)) + 1195)) (N_190 164 (85 * a1 + 4 * (M 164 (85 * a1 + 1192)) + 1196)) hI_N_190 (by omega)) kd_163 rfl rfl rfl ⟨by decide, by decide⟩ rfl rfl (Nat.le_of_ble_eq_true rfl) dX12_aRule_294 rfl ?_
                            intro r_206 N_207 q_208
                            obtain ⟨rfl, q_208c⟩ := q_208
                            refine kx_if_eq 300 F 306 dX12_aRule_297 (by decide) rfl (by omega) (fun h_209 => ?_) (fun h_209 => ?_)
                            · refine kx_aload_n 307 F 0 dX12_aRule_306 rfl rfl rfl ?_
                              refine kx_getr 310 F fl_X12_7 kd_163 rfl rfl (j := 0) rfl dX12_aRule_307 (v := 164) (uq_164 (Inv.r hI_N_190 kd_163 rfl 0 rfl rfl)) rfl ?_
                              refine kx_iload_n 311 F 2 dX12_aRule_310 rfl rfl rfl ?_
                              refine kx_iconst 312 F dX12_aRule_311 rfl ?_
                              refine kx_iadd 313 F (v := 85 * a1 + 1192) dX12_aRule_312 (by omega) rfl ?_
                              refine kx_dup2 314 F dX12_aRule_313 rfl rfl rfl ?_
                              refine kx_iald 315 F kd_164 rfl rfl (by omega) (by decide) dX12_aRule_314 (v := (M 164 (85 * a1 + 1192))) (by rw [hx_N_190 _ (by omega), Fr.e hG_N_179 kd_164 _ rfl, Fr.e hG_N_122 kd_164 _ rfl, hM_N_68, mu_i (by omega), hM_N_66, mu_i (by omega), hx_N_58 _ (by omega), hx_N_48 _ (by omega), Fr.e hG_N_38 kd_164 _ rfl, Fr.e hG_N_12 kd_164 _ rfl]) rfl ?_
                              refine kx_iconst 316 F dX12_aRule_315 rfl ?_
                              refine kx_iadd 317 F (v := (M 164 (85 * a1 + 1192)) + 1) dX12_aRule_316 rfl rfl ?_
                              refine kx_iast 318 F kd_164 rfl rfl (by omega) (by decide) dX12_aRule_317 rfl ?_
                              intro N_210 hM_N_210
                              have hI_N_210 : Inv true N_210 := Inv.u hI_N_190 hM_N_210 kd_164 (a := 0) (b := 20) ha_6.1 ha_6.2 rfl (by omega)
                              have hF_N_210 : Fr f_c_X12_aRule M N_210 := Fr.u hF_N_190 hM_N_210 kd_164 rfl
                              refine kx_iconst 319 F dX12_aRule_318 rfl ?_
                              have e_211 : (N_210 163 14) = (N_190 163 14) := by rw [hM_N_210, mu_k kd_163 kd_164 rfl]
                              have e_212 : (N_210 163 12) = (N_190 163 12) := by rw [hM_N_210, mu_k kd_163 kd_164 rfl]
                              have e_213 : (N_210 163 14) = (N_190 163 14) := by rw [hM_N_210, mu_k kd_163 kd_164 rfl]
                              have e_214 : (N_210 163 12) = (N_190 163 12) := by rw [hM_N_210, mu_k kd_163 kd_164 rfl]
                              have e_215 : (N_210 163 18) = (N_190 163 18) := by rw [hM_N_210, mu_k kd_163 kd_164 rfl]
                              have h_216 := Inv.g hI_N_190 kd_163 rfl 18 (a := (-2147483648)) (b := 2147483647) rfl rfl
                              have e_217 : M 164 (1192 + 85 * a1) = M 164 (85 * a1 + 1192) := by rw [show 1192 + 85 * a1 = 85 * a1 + 1192 by omega]
                              have e_218 : M 164 (1188 + 85 * a1) = M 164 (85 * a1 + 1188) := by rw [show 1188 + 85 * a1 = 85 * a1 + 1188 by omega]
                              have e_219 : N_210 164 (1192 + 85 * a1) = (M 164 (85 * a1 + 1192)) + 1 := by rw [show 1192 + 85 * a1 = 85 * a1 + 1192 by omega, hM_N_210, mu_s]
                              have e_220 : N_210 164 (1194 + 85 * a1 + 4 * (M 164 (85 * a1 + 1192))) = N_48 164 (85 * a1 + 4 * (M 164 (85 * a1 + 1192)) + 1194) := by rw [show 1194 + 85 * a1 + 4 * (M 164 (85 * a1 + 1192)) = 85 * a1 + 4 * (M 164 (85 * a1 + 1192)) + 1194 by omega, hM_N_210, mu_i (by omega), hx_N_190 _ (by omega), Fr.e hG_N_179 kd_164 _ rfl, Fr.e hG_N_122 kd_164 _ rfl, hM_N_68, mu_i (by omega), hM_N_66, mu_i (by omega), hx_N_58 _ (by omega)]
                              have e_221 : N_210 164 (1195 + 85 * a1 + 4 * (M 164 (85 * a1 + 1192))) = N_58 164 (85 * a1 + 4 * (M 164 (85 * a1 + 1192)) + 1195) := by rw [show 1195 + 85 * a1 + 4 * (M 164 (85 * a1 + 1192)) = 85 * a1 + 4 * (M 164 (85 * a1 + 1192)) + 1195 by omega, hM_N_210, mu_i (by omega), hx_N_190 _ (by omega), Fr.e hG_N_179 kd_164 _ rfl, Fr.e hG_N_122 kd_164 _ rfl, hM_N_68, mu_i (by omega), hM_N_66, mu_i (by omega)]
                              exact kx_zret F hQ (by omega) ⟨hI_N_210, hF_N_210, (by omega), ⟨(LO.sta (LO.ne (LO.fr (LO.fr (LO.sta (LO.sta (LO.ne (LO.ne (LO.fr (LO.fr (LO.rf M) hG_N_12 rfl) hG_N_38 rfl) hx_N_48 (by omega)) hx_N_58 (by omega)) hM_N_66 (by omega)) hM_N_68 (by omega)) hG_N_122 rfl) hG_N_179 rfl) hx_N_190 (by omega)) hM_N_210 (by omega)), (fun _ => (R4.rule hR hI_M a1 (M 164 (85 * a1 + 1192)) (by omega) (by omega) (fun j hj h0 => by rw [hM_N_210, mu_i (by omega), hx_N_190 _ (by omega), Fr.e hG_N_179 kd_164 _ rfl, Fr.e hG_N_122 kd_164 _ rfl, hM_N_68, mu_i (by omega), hM_N_66, mu_i (by omega), hx_N_58 _ (by omega), hx_N_48 _ (by omega), Fr.e hG_N_38 kd_164 _ rfl, Fr.e hG_N_12 kd_164 _ rfl]) (by omega) (by omega) (by omega)))⟩⟩ dX12_aRule_319
                            · refine kx_aload_n 301 F 0 dX12_aRule_300 rfl rfl rfl ?_
                              refine kx_iconst 302 F dX12_aRule_301 rfl ?_
                              refine kx_Vi 305 (ci := 0) F (As := [vI 5]) (st := []) vd_X12_205 (c_X12_fails G l N_190 5 hI_N_190 (by omega)) kd_163 rfl rfl rfl ⟨by decide, by decide⟩ rfl rfl (Nat.le_of_ble_eq_true rfl) dX12_aRule_302 rfl ?_
                              intro r_222 N_223 q_224
                              obtain ⟨hI_N_223, hG_N_223, q_224c⟩ := q_224
                              have hF_N_223 : Fr f_c_X12_aRule M N_223 := Fr.c hF_N_190 hG_N_223 rfl
                              have h_225 := Inv.g hI_N_223 kd_163 rfl 18 (a := (-2147483648)) (b := 2147483647) rfl rfl
                              have e_226 : (N_223 163 14) = (N_190 163 14) := by rw [Fr.e hG_N_223 kd_163 _ rfl]
                              have e_227 : (N_223 163 12) = (N_190 163 12) := by rw [Fr.e hG_N_223 kd_163 _ rfl]
                              have e_228 : (N_223 163 14) = (N_190 163 14) := by rw [Fr.e hG_N_223 kd_163 _ rfl]
                              have e_229 : (N_223 163 12) = (N_190 163 12) := by rw [Fr.e hG_N_223 kd_163 _ rfl]
                              exact kx_zret F hQ (by omega) ⟨hI_N_223, hF_N_223, (by omega), ⟨(LO.fr (LO.ne (LO.fr (LO.fr (LO.sta (LO.sta (LO.ne (LO.ne (LO.fr (LO.fr (LO.rf M) hG_N_12 rfl) hG_N_38 rfl) hx_N_48 (by omega)) hx_N_58 (by omega)) hM_N_66 (by omega)) hM_N_68 (by omega)) hG_N_122 rfl) hG_N_179 rfl) hx_N_190 (by omega)) hG_N_223 rfl), (fun h => absurd h (by omega))⟩⟩ dX12_aRule_305
                          · refine kx_if_eq 259 F 306 dX12_aRule_256 (by decide) rfl (by omega) (fun h_230 => ?_) (fun h_230 => (by exfalso; omega))
                            refine kx_aload_n 307 F 0 dX12_aRule_306 rfl rfl rfl ?_
                            refine kx_getr 310 F fl_X12_7 kd_163 rfl rfl (j := 0) rfl dX12_aRule_307 (v := 164) (uq_164 (Inv.r hI_N_190 kd_163 rfl 0 rfl rfl)) rfl ?_
                            refine kx_iload_n 311 F 2 dX12_aRule_310 rfl rfl rfl ?_
                            refine kx_iconst 312 F dX12_aRule_311 rfl ?_
                            refine kx_iadd 313 F (v := 85 * a1 + 1192) dX12_aRule_312 (by omega) rfl ?_
                            refine kx_dup2 314 F dX12_aRule_313 rfl rfl rfl ?_
                            refine kx_iald 315 F kd_164 rfl rfl (by omega) (by decide) dX12_aRule_314 (v := (M 164 (85 * a1 + 1192))) (by rw [hx_N_190 _ (by omega), Fr.e hG_N_179 kd_164 _ rfl, Fr.e hG_N_122 kd_164 _ rfl, hM_N_68, mu_i (by omega), hM_N_66, mu_i (by omega), hx_N_58 _ (by omega), hx_N_48 _ (by omega), Fr.e hG_N_38 kd_164 _ rfl, Fr.e hG_N_12 kd_164 _ rfl]) rfl ?_
                            refine kx_iconst 316 F dX12_aRule_315 rfl ?_
                            refine kx_iadd 317 F (v := (M 164 (85 * a1 + 1192)) + 1) dX12_aRule_316 rfl rfl ?_
                            refine kx_iast 318 F kd_164 rfl rfl (by omega) (by decide) dX12_aRule_317 rfl ?_
                            intro N_231 hM_N_231
                            have hI_N_231 : Inv true N_231 := Inv.u hI_N_190 hM_N_231 kd_164 (a := 0) (b := 20) ha_6.1 ha_6.2 rfl (by omega)
                            have hF_N_231 : Fr f_c_X12_aRule M N_231 := Fr.u hF_N_190 hM_N_231 kd_164 rfl
                            refine kx_iconst 319 F dX12_aRule_318 rfl ?_
                            have e_232 : (N_231 163 14) = (N_190 163 14) := by rw [hM_N_231, mu_k kd_163 kd_164 rfl]
                            have e_233 : (N_231 163 12) = (N_190 163 12) := by rw [hM_N_231, mu_k kd_163 kd_164 rfl]
                            have e_234 : (N_231 163 14) = (N_190 163 14) := by rw [hM_N_231, mu_k kd_163 kd_164 rfl]
                            have e_235 : (N_231 163 12) = (N_190 163 12) := by rw [hM_N_231, mu_k kd_163 kd_164 rfl]
                            have e_236 : (N_231 163 18) = (N_190 163 18) := by rw [hM_N_231, mu_k kd_163 kd_164 rfl]
                            have h_237 := Inv.g hI_N_190 kd_163 rfl 18 (a := (-2147483648)) (b := 2147483647) rfl rfl
                            have e_238 : M 164 (1192 + 85 * a1) = M 164 (85 * a1 + 1192) := by rw [show 1192 + 85 * a1 = 85 * a1 + 1192 by omega]
                            have e_239 : M 164 (1188 + 85 * a1) = M 164 (85 * a1 + 1188) := by rw [show 1188 + 85 * a1 = 85 * a1 + 1188 by omega]
                            have e_240 : N_231 164 (1192 + 85 * a1) = (M 164 (85 * a1 + 1192)) + 1 := by rw [show 1192 + 85 * a1 = 85 * a1 + 1192 by omega, hM_N_231, mu_s]
                            have e_241 : N_231 164 (1194 + 85 * a1 + 4 * (M 164 (85 * a1 + 1192))) = N_48 164 (85 * a1 + 4 * (M 164 (85 * a1 + 1192)) + 1194) := by rw [show 1194 + 85 * a1 + 4 * (M 164 (85 * a1 + 1192)) = 85 * a1 + 4 * (M 164 (85 * a1 + 1192)) + 1194 by omega, hM_N_231, mu_i (by omega), hx_N_190 _ (by omega), Fr.e hG_N_179 kd_164 _ rfl, Fr.e hG_N_122 kd_164 _ rfl, hM_N_68, mu_i (by omega), hM_N_66, mu_i (by omega), hx_N_58 _ (by omega)]
                            have e_242 : N_231 164 (1195 + 85 * a1 + 4 * (M 164 (85 * a1 + 1192))) = N_58 164 (85 * a1 + 4 * (M 164 (85 * a1 + 1192)) + 1195) := by rw [show 1195 + 85 * a1 + 4 * (M 164 (85 * a1 + 1192)) = 85 * a1 + 4 * (M 164 (85 * a1 + 1192)) + 1195 by omega, hM_N_231, mu_i (by omega), hx_N_190 _ (by omega), Fr.e hG_N_179 kd_164 _ rfl, Fr.e hG_N_122 kd_164 _ rfl, hM_N_68, mu_i (by omega), hM_N_66, mu_i (by omega)]
                            exact kx_zret F hQ (by omega) ⟨hI_N_231, hF_N_231, (by omega), ⟨(LO.sta (LO.ne (LO.fr (LO.fr (LO.sta (LO.sta (LO.ne (LO.ne (LO.fr (LO.fr (LO.rf M) hG_N_12 rfl) hG_N_38 rfl) hx_N_48 (by omega)) hx_N_58 (by omega)) hM_N_66 (by omega)) hM_N_68 (by omega)) hG_N_122 rfl) hG_N_179 rfl) hx_N_190 (by omega)) hM_N_231 (by omega)), (fun _ => (R4.rule hR hI_M a1 (M 164 (85 * a1 + 1192)) (by omega) (by omega) (fun j hj h0 => by rw [hM_N_231, mu_i (by omega), hx_N_190 _ (by omega), Fr.e hG_N_179 kd_164 _ rfl, Fr.e hG_N_122 kd_164 _ rfl, hM_N_68, mu_i (by omega), hM_N_66, mu_i (by omega), hx_N_58 _ (by omega), hx_N_48 _ (by omega), Fr.e hG_N_38 kd_164 _ rfl, Fr.e hG_N_12 kd_164 _ rfl]) (by omega) (by omega) (by omega)))⟩⟩ dX12_aRule_319
                        · refine kx_if_ne 219 F 221 dX12_aRule_216 (by decide) rfl (by omega) (fun h_243 => (by exfalso; omega)) (fun h_243 => ?_)
                          refine kx_iconst 220 F dX12_aRule_219 rfl ?_
                          exact kx_zret F hQ (by omega) ⟨hI_N_190, hF_N_190, (by omega), ⟨(LO.ne (LO.fr (LO.fr (LO.sta (LO.sta (LO.ne (LO.ne (LO.fr (LO.fr (LO.rf M) hG_N_12 rfl) hG_N_38 rfl) hx_N_48 (by omega)) hx_N_58 (by omega)) hM_N_66 (by omega)) hM_N_68 (by omega)) hG_N_122 rfl) hG_N_179 rfl) hx_N_190 (by omega)), (fun h => absurd h (by omega))⟩⟩ dX12_aRule_220
                      · refine kx_if_eq 197 F 219 dX12_aRule_194 (by decide) rfl (by omega) (fun h_244 => ?_) (fun h_244 => (by exfalso; omega))
                        refine kx_iconst 220 F dX12_aRule_219 rfl ?_
                        exact kx_zret F hQ (by omega) ⟨hI_N_179, hF_N_179, (by omega), ⟨(LO.fr (LO.fr (LO.sta (LO.sta (LO.ne (LO.ne (LO.fr (LO.fr (LO.rf M) hG_N_12 rfl) hG_N_38 rfl) hx_N_48 (by omega)) hx_N_58 (by omega)) hM_N_66 (by omega)) hM_N_68 (by omega)) hG_N_122 rfl) hG_N_179 rfl), (fun h => absurd h (by omega))⟩⟩ dX12_aRule_220
                · refine kx_aload_n 159 F 0 dX12_aRule_158 rfl rfl rfl ?_
                  refine kx_ldcS 161 F 11 (by decide) rfl rfl dX12_aRule_159 rfl ?_
                  refine kx_bipush 163 F dX12_aRule_161 (by decide) rfl ?_
                  refine kx_Vi 166 (ci := 0) F (As := [vT G 11, vI 8]) (st := []) vd_X12_235 (c_X12_wantWord G l N_68 8 hI_N_68 (by omega)) kd_163 rfl rfl rfl ⟨by decide, by decide⟩ rfl rfl (Nat.le_of_ble_eq_true rfl) dX12_aRule_163 rfl ?_
                  intro r_245 N_246 q_247
                  obtain ⟨hI_N_246, hG_N_246, q_247c⟩ := q_247
                  have hF_N_246 : Fr f_c_X12_aRule M N_246 := Fr.c hF_N_68 hG_N_246 rfl
                  have e_248 : (N_68 163 14) = (N_58 163 14) := by rw [hM_N_68, mu_k kd_163 kd_164 rfl, hM_N_66, mu_k kd_163 kd_164 rfl]
                  have e_249 : (N_68 163 12) = (N_58 163 12) := by rw [hM_N_68, mu_k kd_163 kd_164 rfl, hM_N_66, mu_k kd_163 kd_164 rfl]
                  have h_250 := Inv.g hI_N_246 kd_163 rfl 14 (a := 0) (b := 900) rfl rfl
                  have h_251 := Inv.g hI_N_246 kd_163 rfl 12 (a := 0) (b := 4) rfl rfl
                  have e_252 : (N_68 163 14) = (N_58 163 14) := by rw [hM_N_68, mu_k kd_163 kd_164 rfl, hM_N_66, mu_k kd_163 kd_164 rfl]
                  have e_253 : (N_68 163 12) = (N_58 163 12) := by rw [hM_N_68, mu_k kd_163 kd_164 rfl, hM_N_66, mu_k kd_163 kd_164 rfl]
                  have h_254 := Inv.g hI_N_246 kd_163 rfl 14 (a := 0) (b := 900) rfl rfl
                  have h_255 := Inv.g hI_N_246 kd_163 rfl 12 (a := 0) (b := 4) rfl rfl
                  have h_256 := Inv.g hI_N_246 kd_163 rfl 18 (a := (-2147483648)) (b := 2147483647) rfl rfl
                  rcases q_247c with q_247c | q_247c
                  · refine kx_if_ne 169 F 171 dX12_aRule_166 (by decide) rfl (by omega) (fun h_257 => ?_) (fun h_257 => (by exfalso; omega))
                    refine kx_iload 173 F 6 dX12_aRule_171 rfl rfl ?_
                    refine kx_iconst 174 F dX12_aRule_173 rfl ?_
                    refine kx_icmp_ne 177 F 221 dX12_aRule_174 (by decide) rfl (by omega) (by decide) (fun h_258 => ?_) (fun h_258 => (by exfalso; omega))
                    refine kx_iload 223 F 6 dX12_aRule_221 rfl rfl ?_
                    refine kx_if_ne 226 F 250 dX12_aRule_223 (by decide) rfl (by omega) (fun h_259 => (by exfalso; omega)) (fun h_259 => ?_)
                    refine kx_aload_n 227 F 0 dX12_aRule_226 rfl rfl rfl ?_
                    refine kx_iload 229 F 4 dX12_aRule_227 rfl rfl ?_
                    refine kx_iconst 230 F dX12_aRule_229 rfl ?_
                    refine kx_iadd 231 F (v := 85 * a1 + 4 * (M 164 (85 * a1 + 1192)) + 1196) dX12_aRule_230 (by omega) rfl ?_
                    refine kx_iconst 232 F dX12_aRule_231 rfl ?_
                    refine kx_aload_n 233 F 0 dX12_aRule_232 rfl rfl rfl ?_
                    refine kx_getr 236 F fl_X12_7 kd_163 rfl rfl (j := 0) rfl dX12_aRule_233 (v := 164) (uq_164 (Inv.r hI_N_246 kd_163 rfl 0 rfl rfl)) rfl ?_
                    refine kx_iload_n 237 F 2 dX12_aRule_236 rfl rfl rfl ?_
                    refine kx_iconst 238 F dX12_aRule_237 rfl ?_
                    refine kx_iadd 239 F (v := 85 * a1 + 1189) dX12_aRule_238 (by omega) rfl ?_
                    refine kx_iald 240 F kd_164 rfl rfl (by omega) (by decide) dX12_aRule_239 (v := (M 164 (85 * a1 + 1189))) (by rw [Fr.e hG_N_246 kd_164 _ rfl, hM_N_68, mu_i (by omega), hM_N_66, mu_i (by omega), hx_N_58 _ (by omega), hx_N_48 _ (by omega), Fr.e hG_N_38 kd_164 _ rfl, Fr.e hG_N_12 kd_164 _ rfl]) rfl ?_
                    have ha_260 : atlo (85 * a1 + 1189) = 0 ∧ athi (85 * a1 + 1189) = 3 := at_a (85 * a1 + 1189) 4 a1 1 (by omega) (by omega) (by decide)
                    have h_261 := Inv.g hI_M kd_164 rfl (85 * a1 + 1189) (a := 0) (b := 3) ha_260.1 ha_260.2
                    refine kx_iconst 241 F dX12_aRule_240 rfl ?_
                    refine kx_isub 242 F (v := (M 164 (85 * a1 + 1189)) - 1) dX12_aRule_241 rfl rfl ?_
                    refine kx_Vi 245 (ci := 0) F (As := [vI (85 * a1 + 4 * (M 164 (85 * a1 + 1192)) + 1196), vI 0, vI ((M 164 (85 * a1 + 1189)) - 1)]) (st := []) vd_X12_231 (c_X12_number G l N_246 (85 * a1 + 4 * (M 164 (85 * a1 + 1192)) + 1196) 0 ((M 164 (85 * a1 + 1189)) - 1) hI_N_246 (by omega)) kd_163 rfl rfl rfl ⟨by decide, by decide⟩ rfl rfl (Nat.le_of_ble_eq_true rfl) dX12_aRule_242 rfl ?_
                    intro r_262 N_263 q_264
                    obtain ⟨hI_N_263, hG_N_263, q_264c, hx_N_263⟩ := q_264
                    have hF_N_263 : Fr f_c_X12_aRule M N_263 := Fr.c hF_N_246 hG_N_263 rfl
                    have h_265 := Inv.g hI_N_263 kd_163 rfl 14 (a := 0) (b := 900) rfl rfl
                    have h_266 := Inv.g hI_N_263 kd_163 rfl 12 (a := 0) (b := 4) rfl rfl
                    have h_267 := Inv.g hI_N_263 kd_163 rfl 14 (a := 0) (b := 900) rfl rfl
                    have h_268 := Inv.g hI_N_263 kd_163 rfl 12 (a := 0) (b := 4) rfl rfl
                    have h_269 := Inv.g hI_N_263 kd_163 rfl 18 (a := (-2147483648)) (b := 2147483647) rfl rfl
                    rcases q_264c with q_264c | q_264c
                    · refine kx_if_ne 248 F 250 dX12_aRule_245 (by decide) rfl (by omega) (fun h_270 => ?_) (fun h_270 => (by exfalso; omega))
                      refine kx_aload_n 251 F 0 dX12_aRule_250 rfl rfl rfl ?_
                      refine kx_bipush 253 F dX12_aRule_251 (by decide) rfl ?_
                      refine kx_Vi 256 (ci := 0) F (As := [vI 59]) (st := []) vd_X12_202 (c_X12_isSign G l N_263 59 hI_N_263 (by omega)) kd_163 rfl rfl rfl ⟨by decide, by decide⟩ rfl rfl (Nat.le_of_ble_eq_true rfl) dX12_aRule_253 rfl ?_
                      intro r_271 N_272 q_273
                      obtain ⟨rfl, q_273c⟩ := q_273
                      rcases q_273c with q_273c | q_273c
                      · refine kx_if_eq 259 F 306 dX12_aRule_256 (by decide) rfl (by omega) (fun h_274 => (by exfalso; omega)) (fun h_274 => ?_)
                        refine kx_aload_n 260 F 0 dX12_aRule_259 rfl rfl rfl ?_
                        refine kx_sipush 263 F dX12_aRule_260 (by decide) rfl ?_
                        refine kx_iload_n 264 F 1 dX12_aRule_263 rfl rfl rfl ?_
                        refine kx_iload_n 265 F 3 dX12_aRule_264 rfl rfl rfl ?_
                        refine kx_iload 267 F 5 dX12_aRule_265 rfl rfl ?_
                        refine kx_aload_n 268 F 0 dX12_aRule_267 rfl rfl rfl ?_
                        refine kx_getr 271 F fl_X12_7 kd_163 rfl rfl (j := 0) rfl dX12_aRule_268 (v := 164) (uq_164 (Inv.r hI_N_263 kd_163 rfl 0 rfl rfl)) rfl ?_
                        refine kx_iload 273 F 4 dX12_aRule_271 rfl rfl ?_
                        refine kx_iconst 274 F dX12_aRule_273 rfl ?_
                        refine kx_iadd 275 F (v := 85 * a1 + 4 * (M 164 (85 * a1 + 1192)) + 1194) dX12_aRule_274 (by omega) rfl ?_
                        refine kx_iald 276 F kd_164 rfl rfl (by omega) (by decide) dX12_aRule_275 (v := (N_48 164 (85 * a1 + 4 * (M 164 (85 * a1 + 1192)) + 1194))) (by rw [hx_N_263 _ (by omega), Fr.e hG_N_246 kd_164 _ rfl, hM_N_68, mu_i (by omega), hM_N_66, mu_i (by omega), hx_N_58 _ (by omega)]) rfl ?_
                        have h_275 := Inv.g hI_N_48 kd_164 rfl (85 * a1 + 4 * (M 164 (85 * a1 + 1192)) + 1194) (a := 0) (b := 2) ha_46.1 ha_46.2
                        refine kx_aload_n 277 F 0 dX12_aRule_276 rfl rfl rfl ?_
                        refine kx_getr 280 F fl_X12_7 kd_163 rfl rfl (j := 0) rfl dX12_aRule_277 (v := 164) (uq_164 (Inv.r hI_N_263 kd_163 rfl 0 rfl rfl)) rfl ?_
                        refine kx_iload 282 F 4 dX12_aRule_280 rfl rfl ?_
                        refine kx_iconst 283 F dX12_aRule_282 rfl ?_
                        refine kx_iadd 284 F (v := 85 * a1 + 4 * (M 164 (85 * a1 + 1192)) + 1195) dX12_aRule_283 (by omega) rfl ?_
                        refine kx_iald 285 F kd_164 rfl rfl (by omega) (by decide) dX12_aRule_284 (v := (N_58 164 (85 * a1 + 4 * (M 164 (85 * a1 + 1192)) + 1195))) (by rw [hx_N_263 _ (by omega), Fr.e hG_N_246 kd_164 _ rfl, hM_N_68, mu_i (by omega), hM_N_66, mu_i (by omega)]) rfl ?_
                        have h_276 := Inv.g hI_N_58 kd_164 rfl (85 * a1 + 4 * (M 164 (85 * a1 + 1192)) + 1195) (a := 0) (b := 2) ha_56.1 ha_56.2
                        refine kx_aload_n 286 F 0 dX12_aRule_285 rfl rfl rfl ?_
                        refine kx_getr 289 F fl_X12_7 kd_163 rfl rfl (j := 0) rfl dX12_aRule_286 (v := 164) (uq_164 (Inv.r hI_N_263 kd_163 rfl 0 rfl rfl)) rfl ?_
                        refine kx_iload 291 F 4 dX12_aRule_289 rfl rfl ?_
                        refine kx_iconst 292 F dX12_aRule_291 rfl ?_
                        refine kx_iadd 293 F (v := 85 * a1 + 4 * (M 164 (85 * a1 + 1192)) + 1196) dX12_aRule_292 (by omega) rfl ?_
                        refine kx_iald 294 F kd_164 rfl rfl (by omega) (by decide) dX12_aRule_293 (v := (N_263 164 (85 * a1 + 4 * (M 164 (85 * a1 + 1192)) + 1196))) rfl rfl ?_
                        have h_277 := Inv.g hI_N_263 kd_164 rfl (85 * a1 + 4 * (M 164 (85 * a1 + 1192)) + 1196) (a := (-1)) (b := 2) ha_69.1 ha_69.2
                        refine kx_Vi 297 (ci := 0) F (As := [vI 1088, vI a1, vI (M 164 (85 * a1 + 1192)), vI r_34, vI (N_48 164 (85 * a1 + 4 * (M 164 (85 * a1 + 1192)) + 1194)), vI (N_58 164 (85 * a1 + 4 * (M 164 (85 * a1 + 1192)) + 1195)), vI (N_263 164 (85 * a1 + 4 * (M 164 (85 * a1 + 1192)) + 1196))]) (st := []) vd_X12_253 (c_isRuleN G l N_263 1088 a1 (M 164 (85 * a1 + 1192)) r_34 (N_48 164 (85 * a1 + 4 * (M 164 (85 * a1 + 1192)) + 1194)) (N_58 164 (85 * a1 + 4 * (M 164 (85 * a1 + 1192)) + 1195)) (N_263 164 (85 * a1 + 4 * (M 164 (85 * a1 + 1192)) + 1196)) hI_N_263 (by omega)) kd_163 rfl rfl rfl ⟨by decide, by decide⟩ rfl rfl (Nat.le_of_ble_eq_true rfl) dX12_aRule_294 rfl ?_
                        intro r_278 N_279 q_280
                        obtain ⟨rfl, q_280c⟩ := q_280
                        refine kx_if_eq 300 F 306 dX12_aRule_297 (by decide) rfl (by omega) (fun h_281 => ?_) (fun h_281 => ?_)
                        · refine kx_aload_n 307 F 0 dX12_aRule_306 rfl rfl rfl ?_
                          refine kx_getr 310 F fl_X12_7 kd_163 rfl rfl (j := 0) rfl dX12_aRule_307 (v := 164) (uq_164 (Inv.r hI_N_263 kd_163 rfl 0 rfl rfl)) rfl ?_
                          refine kx_iload_n 311 F 2 dX12_aRule_310 rfl rfl rfl ?_
                          refine kx_iconst 312 F dX12_aRule_311 rfl ?_
                          refine kx_iadd 313 F (v := 85 * a1 + 1192) dX12_aRule_312 (by omega) rfl ?_
                          refine kx_dup2 314 F dX12_aRule_313 rfl rfl rfl ?_
                          refine kx_iald 315 F kd_164 rfl rfl (by omega) (by decide) dX12_aRule_314 (v := (M 164 (85 * a1 + 1192))) (by rw [hx_N_263 _ (by omega), Fr.e hG_N_246 kd_164 _ rfl, hM_N_68, mu_i (by omega), hM_N_66, mu_i (by omega), hx_N_58 _ (by omega), hx_N_48 _ (by omega), Fr.e hG_N_38 kd_164 _ rfl, Fr.e hG_N_12 kd_164 _ rfl]) rfl ?_
                          refine kx_iconst 316 F dX12_aRule_315 rfl ?_
                          refine kx_iadd 317 F (v := (M 164 (85 * a1 + 1192)) + 1) dX12_aRule_316 rfl rfl ?_
                          refine kx_iast 318 F kd_164 rfl rfl (by omega) (by decide) dX12_aRule_317 rfl ?_
                          intro N_282 hM_N_282
                          have hI_N_282 : Inv true N_282 := Inv.u hI_N_263 hM_N_282 kd_164 (a := 0) (b := 20) ha_6.1 ha_6.2 rfl (by omega)
                          have hF_N_282 : Fr f_c_X12_aRule M N_282 := Fr.u hF_N_263 hM_N_282 kd_164 rfl
                          refine kx_iconst 319 F dX12_aRule_318 rfl ?_
                          have e_283 : (N_282 163 14) = (N_263 163 14) := by rw [hM_N_282, mu_k kd_163 kd_164 rfl]
                          have e_284 : (N_282 163 12) = (N_263 163 12) := by rw [hM_N_282, mu_k kd_163 kd_164 rfl]
                          have e_285 : (N_282 163 14) = (N_263 163 14) := by rw [hM_N_282, mu_k kd_163 kd_164 rfl]
                          have e_286 : (N_282 163 12) = (N_263 163 12) := by rw [hM_N_282, mu_k kd_163 kd_164 rfl]
                          have e_287 : (N_282 163 18) = (N_263 163 18) := by rw [hM_N_282, mu_k kd_163 kd_164 rfl]
                          have h_288 := Inv.g hI_N_263 kd_163 rfl 18 (a := (-2147483648)) (b := 2147483647) rfl rfl
                          have e_289 : M 164 (1192 + 85 * a1) = M 164 (85 * a1 + 1192) := by rw [show 1192 + 85 * a1 = 85 * a1 + 1192 by omega]
                          have e_290 : M 164 (1188 + 85 * a1) = M 164 (85 * a1 + 1188) := by rw [show 1188 + 85 * a1 = 85 * a1 + 1188 by omega]
                          have e_291 : N_282 164 (1192 + 85 * a1) = (M 164 (85 * a1 + 1192)) + 1 := by rw [show 1192 + 85 * a1 = 85 * a1 + 1192 by omega, hM_N_282, mu_s]
                          have e_292 : N_282 164 (1194 + 85 * a1 + 4 * (M 164 (85 * a1 + 1192))) = N_48 164 (85 * a1 + 4 * (M 164 (85 * a1 + 1192)) + 1194) := by rw [show 1194 + 85 * a1 + 4 * (M 164 (85 * a1 + 1192)) = 85 * a1 + 4 * (M 164 (85 * a1 + 1192)) + 1194 by omega, hM_N_282, mu_i (by omega), hx_N_263 _ (by omega), Fr.e hG_N_246 kd_164 _ rfl, hM_N_68, mu_i (by omega), hM_N_66, mu_i (by omega), hx_N_58 _ (by omega)]
                          have e_293 : N_282 164 (1195 + 85 * a1 + 4 * (M 164 (85 * a1 + 1192))) = N_58 164 (85 * a1 + 4 * (M 164 (85 * a1 + 1192)) + 1195) := by rw [show 1195 + 85 * a1 + 4 * (M 164 (85 * a1 + 1192)) = 85 * a1 + 4 * (M 164 (85 * a1 + 1192)) + 1195 by omega, hM_N_282, mu_i (by omega), hx_N_263 _ (by omega), Fr.e hG_N_246 kd_164 _ rfl, hM_N_68, mu_i (by omega), hM_N_66, mu_i (by omega)]
                          exact kx_zret F hQ (by omega) ⟨hI_N_282, hF_N_282, (by omega), ⟨(LO.sta (LO.ne (LO.fr (LO.sta (LO.sta (LO.ne (LO.ne (LO.fr (LO.fr (LO.rf M) hG_N_12 rfl) hG_N_38 rfl) hx_N_48 (by omega)) hx_N_58 (by omega)) hM_N_66 (by omega)) hM_N_68 (by omega)) hG_N_246 rfl) hx_N_263 (by omega)) hM_N_282 (by omega)), (fun _ => (R4.rule hR hI_M a1 (M 164 (85 * a1 + 1192)) (by omega) (by omega) (fun j hj h0 => by rw [hM_N_282, mu_i (by omega), hx_N_263 _ (by omega), Fr.e hG_N_246 kd_164 _ rfl, hM_N_68, mu_i (by omega), hM_N_66, mu_i (by omega), hx_N_58 _ (by omega), hx_N_48 _ (by omega), Fr.e hG_N_38 kd_164 _ rfl, Fr.e hG_N_12 kd_164 _ rfl]) (by omega) (by omega) (by omega)))⟩⟩ dX12_aRule_319
                        · refine kx_aload_n 301 F 0 dX12_aRule_300 rfl rfl rfl ?_
                          refine kx_iconst 302 F dX12_aRule_301 rfl ?_
                          refine kx_Vi 305 (ci := 0) F (As := [vI 5]) (st := []) vd_X12_205 (c_X12_fails G l N_263 5 hI_N_263 (by omega)) kd_163 rfl rfl rfl ⟨by decide, by decide⟩ rfl rfl (Nat.le_of_ble_eq_true rfl) dX12_aRule_302 rfl ?_
                          intro r_294 N_295 q_296
                          obtain ⟨hI_N_295, hG_N_295, q_296c⟩ := q_296
                          have hF_N_295 : Fr f_c_X12_aRule M N_295 := Fr.c hF_N_263 hG_N_295 rfl
                          have h_297 := Inv.g hI_N_295 kd_163 rfl 18 (a := (-2147483648)) (b := 2147483647) rfl rfl
                          have e_298 : (N_295 163 14) = (N_263 163 14) := by rw [Fr.e hG_N_295 kd_163 _ rfl]
                          have e_299 : (N_295 163 12) = (N_263 163 12) := by rw [Fr.e hG_N_295 kd_163 _ rfl]
                          have e_300 : (N_295 163 14) = (N_263 163 14) := by rw [Fr.e hG_N_295 kd_163 _ rfl]
                          have e_301 : (N_295 163 12) = (N_263 163 12) := by rw [Fr.e hG_N_295 kd_163 _ rfl]
                          exact kx_zret F hQ (by omega) ⟨hI_N_295, hF_N_295, (by omega), ⟨(LO.fr (LO.ne (LO.fr (LO.sta (LO.sta (LO.ne (LO.ne (LO.fr (LO.fr (LO.rf M) hG_N_12 rfl) hG_N_38 rfl) hx_N_48 (by omega)) hx_N_58 (by omega)) hM_N_66 (by omega)) hM_N_68 (by omega)) hG_N_246 rfl) hx_N_263 (by omega)) hG_N_295 rfl), (fun h => absurd h (by omega))⟩⟩ dX12_aRule_305
                      · refine kx_if_eq 259 F 306 dX12_aRule_256 (by decide) rfl (by omega) (fun h_302 => ?_) (fun h_302 => (by exfalso; omega))
                        refine kx_aload_n 307 F 0 dX12_aRule_306 rfl rfl rfl ?_
                        refine kx_getr 310 F fl_X12_7 kd_163 rfl rfl (j := 0) rfl dX12_aRule_307 (v := 164) (uq_164 (Inv.r hI_N_263 kd_163 rfl 0 rfl rfl)) rfl ?_
                        refine kx_iload_n 311 F 2 dX12_aRule_310 rfl rfl rfl ?_
                        refine kx_iconst 312 F dX12_aRule_311 rfl ?_
                        refine kx_iadd 313 F (v := 85 * a1 + 1192) dX12_aRule_312 (by omega) rfl ?_
                        refine kx_dup2 314 F dX12_aRule_313 rfl rfl rfl ?_
                        refine kx_iald 315 F kd_164 rfl rfl (by omega) (by decide) dX12_aRule_314 (v := (M 164 (85 * a1 + 1192))) (by rw [hx_N_263 _ (by omega), Fr.e hG_N_246 kd_164 _ rfl, hM_N_68, mu_i (by omega), hM_N_66, mu_i (by omega), hx_N_58 _ (by omega), hx_N_48 _ (by omega), Fr.e hG_N_38 kd_164 _ rfl, Fr.e hG_N_12 kd_164 _ rfl]) rfl ?_
                        refine kx_iconst 316 F dX12_aRule_315 rfl ?_
                        refine kx_iadd 317 F (v := (M 164 (85 * a1 + 1192)) + 1) dX12_aRule_316 rfl rfl ?_
                        refine kx_iast 318 F kd_164 rfl rfl (by omega) (by decide) dX12_aRule_317 rfl ?_
                        intro N_303 hM_N_303
                        have hI_N_303 : Inv true N_303 := Inv.u hI_N_263 hM_N_303 kd_164 (a := 0) (b := 20) ha_6.1 ha_6.2 rfl (by omega)
                        have hF_N_303 : Fr f_c_X12_aRule M N_303 := Fr.u hF_N_263 hM_N_303 kd_164 rfl
                        refine kx_iconst 319 F dX12_aRule_318 rfl ?_
                        have e_304 : (N_303 163 14) = (N_263 163 14) := by rw [hM_N_303, mu_k kd_163 kd_164 rfl]
                        have e_305 : (N_303 163 12) = (N_263 163 12) := by rw [hM_N_303, mu_k kd_163 kd_164 rfl]
                        have e_306 : (N_303 163 14) = (N_263 163 14) := by rw [hM_N_303, mu_k kd_163 kd_164 rfl]
                        have e_307 : (N_303 163 12) = (N_263 163 12) := by rw [hM_N_303, mu_k kd_163 kd_164 rfl]
                        have e_308 : (N_303 163 18) = (N_263 163 18) := by rw [hM_N_303, mu_k kd_163 kd_164 rfl]
                        have h_309 := Inv.g hI_N_263 kd_163 rfl 18 (a := (-2147483648)) (b := 2147483647) rfl rfl
                        have e_310 : M 164 (1192 + 85 * a1) = M 164 (85 * a1 + 1192) := by rw [show 1192 + 85 * a1 = 85 * a1 + 1192 by omega]
                        have e_311 : M 164 (1188 + 85 * a1) = M 164 (85 * a1 + 1188) := by rw [show 1188 + 85 * a1 = 85 * a1 + 1188 by omega]
                        have e_312 : N_303 164 (1192 + 85 * a1) = (M 164 (85 * a1 + 1192)) + 1 := by rw [show 1192 + 85 * a1 = 85 * a1 + 1192 by omega, hM_N_303, mu_s]
                        have e_313 : N_303 164 (1194 + 85 * a1 + 4 * (M 164 (85 * a1 + 1192))) = N_48 164 (85 * a1 + 4 * (M 164 (85 * a1 + 1192)) + 1194) := by rw [show 1194 + 85 * a1 + 4 * (M 164 (85 * a1 + 1192)) = 85 * a1 + 4 * (M 164 (85 * a1 + 1192)) + 1194 by omega, hM_N_303, mu_i (by omega), hx_N_263 _ (by omega), Fr.e hG_N_246 kd_164 _ rfl, hM_N_68, mu_i (by omega), hM_N_66, mu_i (by omega), hx_N_58 _ (by omega)]
                        have e_314 : N_303 164 (1195 + 85 * a1 + 4 * (M 164 (85 * a1 + 1192))) = N_58 164 (85 * a1 + 4 * (M 164 (85 * a1 + 1192)) + 1195) := by rw [show 1195 + 85 * a1 + 4 * (M 164 (85 * a1 + 1192)) = 85 * a1 + 4 * (M 164 (85 * a1 + 1192)) + 1195 by omega, hM_N_303, mu_i (by omega), hx_N_263 _ (by omega), Fr.e hG_N_246 kd_164 _ rfl, hM_N_68, mu_i (by omega), hM_N_66, mu_i (by omega)]
                        exact kx_zret F hQ (by omega) ⟨hI_N_303, hF_N_303, (by omega), ⟨(LO.sta (LO.ne (LO.fr (LO.sta (LO.sta (LO.ne (LO.ne (LO.fr (LO.fr (LO.rf M) hG_N_12 rfl) hG_N_38 rfl) hx_N_48 (by omega)) hx_N_58 (by omega)) hM_N_66 (by omega)) hM_N_68 (by omega)) hG_N_246 rfl) hx_N_263 (by omega)) hM_N_303 (by omega)), (fun _ => (R4.rule hR hI_M a1 (M 164 (85 * a1 + 1192)) (by omega) (by omega) (fun j hj h0 => by rw [hM_N_303, mu_i (by omega), hx_N_263 _ (by omega), Fr.e hG_N_246 kd_164 _ rfl, hM_N_68, mu_i (by omega), hM_N_66, mu_i (by omega), hx_N_58 _ (by omega), hx_N_48 _ (by omega), Fr.e hG_N_38 kd_164 _ rfl, Fr.e hG_N_12 kd_164 _ rfl]) (by omega) (by omega) (by omega)))⟩⟩ dX12_aRule_319
                    · refine kx_if_ne 248 F 250 dX12_aRule_245 (by decide) rfl (by omega) (fun h_315 => (by exfalso; omega)) (fun h_315 => ?_)
                      refine kx_iconst 249 F dX12_aRule_248 rfl ?_
                      exact kx_zret F hQ (by omega) ⟨hI_N_263, hF_N_263, (by omega), ⟨(LO.ne (LO.fr (LO.sta (LO.sta (LO.ne (LO.ne (LO.fr (LO.fr (LO.rf M) hG_N_12 rfl) hG_N_38 rfl) hx_N_48 (by omega)) hx_N_58 (by omega)) hM_N_66 (by omega)) hM_N_68 (by omega)) hG_N_246 rfl) hx_N_263 (by omega)), (fun h => absurd h (by omega))⟩⟩ dX12_aRule_249
                  · refine kx_if_ne 169 F 171 dX12_aRule_166 (by decide) rfl (by omega) (fun h_316 => (by exfalso; omega)) (fun h_316 => ?_)
                    refine kx_iconst 170 F dX12_aRule_169 rfl ?_
                    exact kx_zret F hQ (by omega) ⟨hI_N_246, hF_N_246, (by omega), ⟨(LO.fr (LO.sta (LO.sta (LO.ne (LO.ne (LO.fr (LO.fr (LO.rf M) hG_N_12 rfl) hG_N_38 rfl) hx_N_48 (by omega)) hx_N_58 (by omega)) hM_N_66 (by omega)) hM_N_68 (by omega)) hG_N_246 rfl), (fun h => absurd h (by omega))⟩⟩ dX12_aRule_170
              · refine kx_if_ne 121 F 123 dX12_aRule_118 (by decide) rfl (by omega) (fun h_317 => (by exfalso; omega)) (fun h_317 => ?_)
                refine kx_iconst 122 F dX12_aRule_121 rfl ?_
                exact kx_zret F hQ (by omega) ⟨hI_N_58, hF_N_58, (by omega), ⟨(LO.ne (LO.ne (LO.fr (LO.fr (LO.rf M) hG_N_12 rfl) hG_N_38 rfl) hx_N_48 (by omega)) hx_N_58 (by omega)), (fun h => absurd h (by omega))⟩⟩ dX12_aRule_122
            · refine kx_if_eq 101 F 121 dX12_aRule_98 (by decide) rfl (by omega) (fun h_318 => ?_) (fun h_318 => (by exfalso; omega))
              refine kx_iconst 122 F dX12_aRule_121 rfl ?_
              exact kx_zret F hQ (by omega) ⟨hI_N_48, hF_N_48, (by omega), ⟨(LO.ne (LO.fr (LO.fr (LO.rf M) hG_N_12 rfl) hG_N_38 rfl) hx_N_48 (by omega)), (fun h => absurd h (by omega))⟩⟩ dX12_aRule_122
          · refine kx_aload_n 82 F 0 dX12_aRule_81 rfl rfl rfl ?_
            refine kx_iload 84 F 4 dX12_aRule_82 rfl rfl ?_
            refine kx_iconst 85 F dX12_aRule_84 rfl ?_
            refine kx_iadd 86 F (v := 85 * a1 + 4 * (M 164 (85 * a1 + 1192)) + 1194) dX12_aRule_85 (by omega) rfl ?_
            refine kx_iconst 87 F dX12_aRule_86 rfl ?_
            refine kx_aload_n 88 F 0 dX12_aRule_87 rfl rfl rfl ?_
            refine kx_getr 91 F fl_X12_7 kd_163 rfl rfl (j := 0) rfl dX12_aRule_88 (v := 164) (uq_164 (Inv.r hI_N_38 kd_163 rfl 0 rfl rfl)) rfl ?_
            refine kx_iload_n 92 F 2 dX12_aRule_91 rfl rfl rfl ?_
            refine kx_iald 93 F kd_164 rfl rfl (by omega) (by decide) dX12_aRule_92 (v := (M 164 (85 * a1 + 1188))) (by rw [Fr.e hG_N_38 kd_164 _ rfl, Fr.e hG_N_12 kd_164 _ rfl]) rfl ?_
            have ha_319 : atlo (85 * a1 + 1188) = 0 ∧ athi (85 * a1 + 1188) = 3 := at_a (85 * a1 + 1188) 4 a1 0 (by omega) (by omega) (by decide)
            have h_320 := Inv.g hI_M kd_164 rfl (85 * a1 + 1188) (a := 0) (b := 3) ha_319.1 ha_319.2
            refine kx_iconst 94 F dX12_aRule_93 rfl ?_
            refine kx_isub 95 F (v := (M 164 (85 * a1 + 1188)) - 1) dX12_aRule_94 rfl rfl ?_
            have ha_321 : atlo (85 * a1 + 4 * (M 164 (85 * a1 + 1192)) + 1194) = 0 ∧ athi (85 * a1 + 4 * (M 164 (85 * a1 + 1192)) + 1194) = 2 := at_r (85 * a1 + 4 * (M 164 (85 * a1 + 1192)) + 1194) 4 a1 (M 164 (85 * a1 + 1192)) 1 (by omega) (by omega) (by omega) (by decide)
            refine kx_Vi 98 (ci := 0) F (As := [vI (85 * a1 + 4 * (M 164 (85 * a1 + 1192)) + 1194), vI 0, vI ((M 164 (85 * a1 + 1188)) - 1)]) (st := []) vd_X12_231 (c_X12_number G l N_38 (85 * a1 + 4 * (M 164 (85 * a1 + 1192)) + 1194) 0 ((M 164 (85 * a1 + 1188)) - 1) hI_N_38 (by omega)) kd_163 rfl rfl rfl ⟨by decide, by decide⟩ rfl rfl (Nat.le_of_ble_eq_true rfl) dX12_aRule_95 rfl ?_
            intro r_322 N_323 q_324
            obtain ⟨hI_N_323, hG_N_323, q_324c, hx_N_323⟩ := q_324
            have hF_N_323 : Fr f_c_X12_aRule M N_323 := Fr.c hF_N_38 hG_N_323 rfl
            have h_325 := Inv.g hI_N_323 kd_163 rfl 14 (a := 0) (b := 900) rfl rfl
            have h_326 := Inv.g hI_N_323 kd_163 rfl 12 (a := 0) (b := 4) rfl rfl
            have h_327 := Inv.g hI_N_323 kd_163 rfl 14 (a := 0) (b := 900) rfl rfl
            have h_328 := Inv.g hI_N_323 kd_163 rfl 12 (a := 0) (b := 4) rfl rfl
            have h_329 := Inv.g hI_N_323 kd_163 rfl 18 (a := (-2147483648)) (b := 2147483647) rfl rfl
            rcases q_324c with q_324c | q_324c
            · refine kx_if_eq 101 F 121 dX12_aRule_98 (by decide) rfl (by omega) (fun h_330 => (by exfalso; omega)) (fun h_330 => ?_)
              refine kx_aload_n 102 F 0 dX12_aRule_101 rfl rfl rfl ?_
              refine kx_iload 104 F 4 dX12_aRule_102 rfl rfl ?_
              refine kx_iconst 105 F dX12_aRule_104 rfl ?_
              refine kx_iadd 106 F (v := 85 * a1 + 4 * (M 164 (85 * a1 + 1192)) + 1195) dX12_aRule_105 (by omega) rfl ?_
              refine kx_iconst 107 F dX12_aRule_106 rfl ?_
              refine kx_aload_n 108 F 0 dX12_aRule_107 rfl rfl rfl ?_
              refine kx_getr 111 F fl_X12_7 kd_163 rfl rfl (j := 0) rfl dX12_aRule_108 (v := 164) (uq_164 (Inv.r hI_N_323 kd_163 rfl 0 rfl rfl)) rfl ?_
              refine kx_iload_n 112 F 2 dX12_aRule_111 rfl rfl rfl ?_
              refine kx_iald 113 F kd_164 rfl rfl (by omega) (by decide) dX12_aRule_112 (v := (M 164 (85 * a1 + 1188))) (by rw [hx_N_323 _ (by omega), Fr.e hG_N_38 kd_164 _ rfl, Fr.e hG_N_12 kd_164 _ rfl]) rfl ?_
              refine kx_iconst 114 F dX12_aRule_113 rfl ?_
              refine kx_isub 115 F (v := (M 164 (85 * a1 + 1188)) - 1) dX12_aRule_114 rfl rfl ?_
              have ha_331 : atlo (85 * a1 + 4 * (M 164 (85 * a1 + 1192)) + 1195) = 0 ∧ athi (85 * a1 + 4 * (M 164 (85 * a1 + 1192)) + 1195) = 2 := at_r (85 * a1 + 4 * (M 164 (85 * a1 + 1192)) + 1195) 4 a1 (M 164 (85 * a1 + 1192)) 2 (by omega) (by omega) (by omega) (by decide)
              refine kx_Vi 118 (ci := 0) F (As := [vI (85 * a1 + 4 * (M 164 (85 * a1 + 1192)) + 1195), vI 0, vI ((M 164 (85 * a1 + 1188)) - 1)]) (st := []) vd_X12_231 (c_X12_number G l N_323 (85 * a1 + 4 * (M 164 (85 * a1 + 1192)) + 1195) 0 ((M 164 (85 * a1 + 1188)) - 1) hI_N_323 (by omega)) kd_163 rfl rfl rfl ⟨by decide, by decide⟩ rfl rfl (Nat.le_of_ble_eq_true rfl) dX12_aRule_115 rfl ?_
              intro r_332 N_333 q_334
              obtain ⟨hI_N_333, hG_N_333, q_334c, hx_N_333⟩ := q_334
              have hF_N_333 : Fr f_c_X12_aRule M N_333 := Fr.c hF_N_323 hG_N_333 rfl
              have h_335 := Inv.g hI_N_333 kd_163 rfl 14 (a := 0) (b := 900) rfl rfl
              have h_336 := Inv.g hI_N_333 kd_163 rfl 12 (a := 0) (b := 4) rfl rfl
              have h_337 := Inv.g hI_N_333 kd_163 rfl 14 (a := 0) (b := 900) rfl rfl
              have h_338 := Inv.g hI_N_333 kd_163 rfl 12 (a := 0) (b := 4) rfl rfl
              have h_339 := Inv.g hI_N_333 kd_163 rfl 18 (a := (-2147483648)) (b := 2147483647) rfl rfl
              rcases q_334c with q_334c | q_334c
              · refine kx_if_ne 121 F 123 dX12_aRule_118 (by decide) rfl (by omega) (fun h_340 => ?_) (fun h_340 => (by exfalso; omega))
                refine kx_aload_n 124 F 0 dX12_aRule_123 rfl rfl rfl ?_
                refine kx_getr 127 F fl_X12_7 kd_163 rfl rfl (j := 0) rfl dX12_aRule_124 (v := 164) (uq_164 (Inv.r hI_N_333 kd_163 rfl 0 rfl rfl)) rfl ?_
                refine kx_iload 129 F 4 dX12_aRule_127 rfl rfl ?_
                refine kx_iload 131 F 5 dX12_aRule_129 rfl rfl ?_
                refine kx_iast 132 F kd_164 rfl rfl (by omega) (by decide) dX12_aRule_131 rfl ?_
                intro N_341 hM_N_341
                have ha_342 : atlo (85 * a1 + 4 * (M 164 (85 * a1 + 1192)) + 1193) = 0 ∧ athi (85 * a1 + 4 * (M 164 (85 * a1 + 1192)) + 1193) = 5 := at_r (85 * a1 + 4 * (M 164 (85 * a1 + 1192)) + 1193) 4 a1 (M 164 (85 * a1 + 1192)) 0 (by omega) (by omega) (by omega) (by decide)
                have hI_N_341 : Inv true N_341 := Inv.u hI_N_333 hM_N_341 kd_164 (a := 0) (b := 5) ha_342.1 ha_342.2 rfl (by omega)
                have hF_N_341 : Fr f_c_X12_aRule M N_341 := Fr.u hF_N_333 hM_N_341 kd_164 rfl
                refine kx_aload_n 133 F 0 dX12_aRule_132 rfl rfl rfl ?_
                refine kx_getr 136 F fl_X12_7 kd_163 rfl rfl (j := 0) rfl dX12_aRule_133 (v := 164) (uq_164 (Inv.r hI_N_341 kd_163 rfl 0 rfl rfl)) rfl ?_
                refine kx_iload 138 F 4 dX12_aRule_136 rfl rfl ?_
                refine kx_iconst 139 F dX12_aRule_138 rfl ?_
                refine kx_iadd 140 F (v := 85 * a1 + 4 * (M 164 (85 * a1 + 1192)) + 1196) dX12_aRule_139 (by omega) rfl ?_
                refine kx_iconst 141 F dX12_aRule_140 rfl ?_
                refine kx_iast 142 F kd_164 rfl rfl (by omega) (by decide) dX12_aRule_141 rfl ?_
                intro N_343 hM_N_343
                have ha_344 : atlo (85 * a1 + 4 * (M 164 (85 * a1 + 1192)) + 1196) = (-1) ∧ athi (85 * a1 + 4 * (M 164 (85 * a1 + 1192)) + 1196) = 2 := at_r (85 * a1 + 4 * (M 164 (85 * a1 + 1192)) + 1196) 4 a1 (M 164 (85 * a1 + 1192)) 3 (by omega) (by omega) (by omega) (by decide)
                have hI_N_343 : Inv true N_343 := Inv.u hI_N_341 hM_N_343 kd_164 (a := (-1)) (b := 2) ha_344.1 ha_344.2 rfl (by omega)
                have hF_N_343 : Fr f_c_X12_aRule M N_343 := Fr.u hF_N_341 hM_N_343 kd_164 rfl
                refine kx_aload_n 143 F 0 dX12_aRule_142 rfl rfl rfl ?_
                refine kx_sipush 146 F dX12_aRule_143 (by decide) rfl ?_
                refine kx_iload 148 F 5 dX12_aRule_146 rfl rfl ?_
                refine kx_Vi 151 (ci := 0) F (As := [vI 1088, vI r_34]) (st := []) vd_X12_247 (c_sortOfN G l N_343 1088 r_34 hI_N_343 (by omega)) kd_163 rfl rfl rfl ⟨by decide, by decide⟩ rfl rfl (Nat.le_of_ble_eq_true rfl) dX12_aRule_148 rfl ?_
                intro r_345 N_346 q_347
                obtain ⟨rfl, q_347c⟩ := q_347
                refine kx_istore 153 F 6 (lo' := [some (vR G 163), some (vI a1), some (vI (85 * a1 + 1188)), some (vI (M 164 (85 * a1 + 1192))), some (vI (85 * a1 + 4 * (M 164 (85 * a1 + 1192)) + 1193)), some (vI r_34), some (vI r_345)]) dX12_aRule_151 (by decide) rfl rfl rfl ?_
                refine kx_iload 155 F 6 dX12_aRule_153 rfl rfl ?_
                refine kx_if_ne 158 F 171 dX12_aRule_155 (by decide) rfl (by omega) (fun h_348 => ?_) (fun h_348 => ?_)
                · refine kx_iload 173 F 6 dX12_aRule_171 rfl rfl ?_
                  refine kx_iconst 174 F dX12_aRule_173 rfl ?_
                  refine kx_icmp_ne 177 F 221 dX12_aRule_174 (by decide) rfl (by omega) (by decide) (fun h_349 => ?_) (fun h_349 => ?_)
                  · refine kx_iload 223 F 6 dX12_aRule_221 rfl rfl ?_
                    refine kx_if_ne 226 F 250 dX12_aRule_223 (by decide) rfl (by omega) (fun h_350 => ?_) (fun h_350 => (by exfalso; omega))
                    refine kx_aload_n 251 F 0 dX12_aRule_250 rfl rfl rfl ?_
                    refine kx_bipush 253 F dX12_aRule_251 (by decide) rfl ?_
                    refine kx_Vi 256 (ci := 0) F (As := [vI 59]) (st := []) vd_X12_202 (c_X12_isSign G l N_343 59 hI_N_343 (by omega)) kd_163 rfl rfl rfl ⟨by decide, by decide⟩ rfl rfl (Nat.le_of_ble_eq_true rfl) dX12_aRule_253 rfl ?_
                    intro r_351 N_352 q_353
                    obtain ⟨rfl, q_353c⟩ := q_353
                    have e_354 : (N_343 163 12) = (N_333 163 12) := by rw [hM_N_343, mu_k kd_163 kd_164 rfl, hM_N_341, mu_k kd_163 kd_164 rfl]
                    have e_355 : (N_343 163 12) = (N_333 163 12) := by rw [hM_N_343, mu_k kd_163 kd_164 rfl, hM_N_341, mu_k kd_163 kd_164 rfl]
                    rcases q_353c with q_353c | q_353c
                    · refine kx_if_eq 259 F 306 dX12_aRule_256 (by decide) rfl (by omega) (fun h_356 => (by exfalso; omega)) (fun h_356 => ?_)
                      refine kx_aload_n 260 F 0 dX12_aRule_259 rfl rfl rfl ?_
                      refine kx_sipush 263 F dX12_aRule_260 (by decide) rfl ?_
                      refine kx_iload_n 264 F 1 dX12_aRule_263 rfl rfl rfl ?_
                      refine kx_iload_n 265 F 3 dX12_aRule_264 rfl rfl rfl ?_
                      refine kx_iload 267 F 5 dX12_aRule_265 rfl rfl ?_
                      refine kx_aload_n 268 F 0 dX12_aRule_267 rfl rfl rfl ?_
                      refine kx_getr 271 F fl_X12_7 kd_163 rfl rfl (j := 0) rfl dX12_aRule_268 (v := 164) (uq_164 (Inv.r hI_N_343 kd_163 rfl 0 rfl rfl)) rfl ?_
                      refine kx_iload 273 F 4 dX12_aRule_271 rfl rfl ?_
                      refine kx_iconst 274 F dX12_aRule_273 rfl ?_
                      refine kx_iadd 275 F (v := 85 * a1 + 4 * (M 164 (85 * a1 + 1192)) + 1194) dX12_aRule_274 (by omega) rfl ?_
                      refine kx_iald 276 F kd_164 rfl rfl (by omega) (by decide) dX12_aRule_275 (v := (N_323 164 (85 * a1 + 4 * (M 164 (85 * a1 + 1192)) + 1194))) (by rw [hM_N_343, mu_i (by omega), hM_N_341, mu_i (by omega), hx_N_333 _ (by omega)]) rfl ?_
                      have h_357 := Inv.g hI_N_323 kd_164 rfl (85 * a1 + 4 * (M 164 (85 * a1 + 1192)) + 1194) (a := 0) (b := 2) ha_321.1 ha_321.2
                      refine kx_aload_n 277 F 0 dX12_aRule_276 rfl rfl rfl ?_
                      refine kx_getr 280 F fl_X12_7 kd_163 rfl rfl (j := 0) rfl dX12_aRule_277 (v := 164) (uq_164 (Inv.r hI_N_343 kd_163 rfl 0 rfl rfl)) rfl ?_
                      refine kx_iload 282 F 4 dX12_aRule_280 rfl rfl ?_
                      refine kx_iconst 283 F dX12_aRule_282 rfl ?_
                      refine kx_iadd 284 F (v := 85 * a1 + 4 * (M 164 (85 * a1 + 1192)) + 1195) dX12_aRule_283 (by omega) rfl ?_
                      refine kx_iald 285 F kd_164 rfl rfl (by omega) (by decide) dX12_aRule_284 (v := (N_333 164 (85 * a1 + 4 * (M 164 (85 * a1 + 1192)) + 1195))) (by rw [hM_N_343, mu_i (by omega), hM_N_341, mu_i (by omega)]) rfl ?_
                      have h_358 := Inv.g hI_N_333 kd_164 rfl (85 * a1 + 4 * (M 164 (85 * a1 + 1192)) + 1195) (a := 0) (b := 2) ha_331.1 ha_331.2
                      refine kx_aload_n 286 F 0 dX12_aRule_285 rfl rfl rfl ?_
                      refine kx_getr 289 F fl_X12_7 kd_163 rfl rfl (j := 0) rfl dX12_aRule_286 (v := 164) (uq_164 (Inv.r hI_N_343 kd_163 rfl 0 rfl rfl)) rfl ?_
                      refine kx_iload 291 F 4 dX12_aRule_289 rfl rfl ?_
                      refine kx_iconst 292 F dX12_aRule_291 rfl ?_
                      refine kx_iadd 293 F (v := 85 * a1 + 4 * (M 164 (85 * a1 + 1192)) + 1196) dX12_aRule_292 (by omega) rfl ?_
                      refine kx_iald 294 F kd_164 rfl rfl (by omega) (by decide) dX12_aRule_293 (v := -1) (by rw [hM_N_343, mu_s]) rfl ?_
                      refine kx_Vi 297 (ci := 0) F (As := [vI 1088, vI a1, vI (M 164 (85 * a1 + 1192)), vI r_34, vI (N_323 164 (85 * a1 + 4 * (M 164 (85 * a1 + 1192)) + 1194)), vI (N_333 164 (85 * a1 + 4 * (M 164 (85 * a1 + 1192)) + 1195)), vI (-1)]) (st := []) vd_X12_253 (c_isRuleN G l N_343 1088 a1 (M 164 (85 * a1 + 1192)) r_34 (N_323 164 (85 * a1 + 4 * (M 164 (85 * a1 + 1192)) + 1194)) (N_333 164 (85 * a1 + 4 * (M 164 (85 * a1 + 1192)) + 1195)) (-1) hI_N_343 (by omega)) kd_163 rfl rfl rfl ⟨by decide, by decide⟩ rfl rfl (Nat.le_of_ble_eq_true rfl) dX12_aRule_294 rfl ?_
                      intro r_359 N_360 q_361
                      obtain ⟨rfl, q_361c⟩ := q_361
                      refine kx_if_eq 300 F 306 dX12_aRule_297 (by decide) rfl (by omega) (fun h_362 => ?_) (fun h_362 => ?_)
                      · refine kx_aload_n 307 F 0 dX12_aRule_306 rfl rfl rfl ?_
                        refine kx_getr 310 F fl_X12_7 kd_163 rfl rfl (j := 0) rfl dX12_aRule_307 (v := 164) (uq_164 (Inv.r hI_N_343 kd_163 rfl 0 rfl rfl)) rfl ?_
                        refine kx_iload_n 311 F 2 dX12_aRule_310 rfl rfl rfl ?_
                        refine kx_iconst 312 F dX12_aRule_311 rfl ?_
                        refine kx_iadd 313 F (v := 85 * a1 + 1192) dX12_aRule_312 (by omega) rfl ?_
                        refine kx_dup2 314 F dX12_aRule_313 rfl rfl rfl ?_
                        refine kx_iald 315 F kd_164 rfl rfl (by omega) (by decide) dX12_aRule_314 (v := (M 164 (85 * a1 + 1192))) (by rw [hM_N_343, mu_i (by omega), hM_N_341, mu_i (by omega), hx_N_333 _ (by omega), hx_N_323 _ (by omega), Fr.e hG_N_38 kd_164 _ rfl, Fr.e hG_N_12 kd_164 _ rfl]) rfl ?_
                        refine kx_iconst 316 F dX12_aRule_315 rfl ?_
                        refine kx_iadd 317 F (v := (M 164 (85 * a1 + 1192)) + 1) dX12_aRule_316 rfl rfl ?_
                        refine kx_iast 318 F kd_164 rfl rfl (by omega) (by decide) dX12_aRule_317 rfl ?_
                        intro N_363 hM_N_363
                        have hI_N_363 : Inv true N_363 := Inv.u hI_N_343 hM_N_363 kd_164 (a := 0) (b := 20) ha_6.1 ha_6.2 rfl (by omega)
                        have hF_N_363 : Fr f_c_X12_aRule M N_363 := Fr.u hF_N_343 hM_N_363 kd_164 rfl
                        refine kx_iconst 319 F dX12_aRule_318 rfl ?_
                        have e_364 : (N_363 163 14) = (N_333 163 14) := by rw [hM_N_363, mu_k kd_163 kd_164 rfl, hM_N_343, mu_k kd_163 kd_164 rfl, hM_N_341, mu_k kd_163 kd_164 rfl]
                        have e_365 : (N_363 163 12) = (N_333 163 12) := by rw [hM_N_363, mu_k kd_163 kd_164 rfl, hM_N_343, mu_k kd_163 kd_164 rfl, hM_N_341, mu_k kd_163 kd_164 rfl]
                        have e_366 : (N_363 163 14) = (N_333 163 14) := by rw [hM_N_363, mu_k kd_163 kd_164 rfl, hM_N_343, mu_k kd_163 kd_164 rfl, hM_N_341, mu_k kd_163 kd_164 rfl]
                        have e_367 : (N_363 163 12) = (N_333 163 12) := by rw [hM_N_363, mu_k kd_163 kd_164 rfl, hM_N_343, mu_k kd_163 kd_164 rfl, hM_N_341, mu_k kd_163 kd_164 rfl]
                        have e_368 : (N_363 163 18) = (N_333 163 18) := by rw [hM_N_363, mu_k kd_163 kd_164 rfl, hM_N_343, mu_k kd_163 kd_164 rfl, hM_N_341, mu_k kd_163 kd_164 rfl]
                        have h_369 := Inv.g hI_N_333 kd_163 rfl 18 (a := (-2147483648)) (b := 2147483647) rfl rfl
                        have e_370 : M 164 (1192 + 85 * a1) = M 164 (85 * a1 + 1192) := by rw [show 1192 + 85 * a1 = 85 * a1 + 1192 by omega]
                        have e_371 : M 164 (1188 + 85 * a1) = M 164 (85 * a1 + 1188) := by rw [show 1188 + 85 * a1 = 85 * a1 + 1188 by omega]
                        have e_372 : N_363 164 (1192 + 85 * a1) = (M 164 (85 * a1 + 1192)) + 1 := by rw [show 1192 + 85 * a1 = 85 * a1 + 1192 by omega, hM_N_363, mu_s]
                        have e_373 : N_363 164 (1194 + 85 * a1 + 4 * (M 164 (85 * a1 + 1192))) = N_323 164 (85 * a1 + 4 * (M 164 (85 * a1 + 1192)) + 1194) := by rw [show 1194 + 85 * a1 + 4 * (M 164 (85 * a1 + 1192)) = 85 * a1 + 4 * (M 164 (85 * a1 + 1192)) + 1194 by omega, hM_N_363, mu_i (by omega), hM_N_343, mu_i (by omega), hM_N_341, mu_i (by omega), hx_N_333 _ (by omega)]
                        have e_374 : N_363 164 (1195 + 85 * a1 + 4 * (M 164 (85 * a1 + 1192))) = N_333 164 (85 * a1 + 4 * (M 164 (85 * a1 + 1192)) + 1195) := by rw [show 1195 + 85 * a1 + 4 * (M 164 (85 * a1 + 1192)) = 85 * a1 + 4 * (M 164 (85 * a1 + 1192)) + 1195 by omega, hM_N_363, mu_i (by omega), hM_N_343, mu_i (by omega), hM_N_341, mu_i (by omega)]
                        exact kx_zret F hQ (by omega) ⟨hI_N_363, hF_N_363, (by omega), ⟨(LO.sta (LO.sta (LO.sta (LO.ne (LO.ne (LO.fr (LO.fr (LO.rf M) hG_N_12 rfl) hG_N_38 rfl) hx_N_323 (by omega)) hx_N_333 (by omega)) hM_N_341 (by omega)) hM_N_343 (by omega)) hM_N_363 (by omega)), (fun _ => (R4.rule hR hI_M a1 (M 164 (85 * a1 + 1192)) (by omega) (by omega) (fun j hj h0 => by rw [hM_N_363, mu_i (by omega), hM_N_343, mu_i (by omega), hM_N_341, mu_i (by omega), hx_N_333 _ (by omega), hx_N_323 _ (by omega), Fr.e hG_N_38 kd_164 _ rfl, Fr.e hG_N_12 kd_164 _ rfl]) (by omega) (by omega) (by omega)))⟩⟩ dX12_aRule_319
                      · refine kx_aload_n 301 F 0 dX12_aRule_300 rfl rfl rfl ?_
                        refine kx_iconst 302 F dX12_aRule_301 rfl ?_
                        refine kx_Vi 305 (ci := 0) F (As := [vI 5]) (st := []) vd_X12_205 (c_X12_fails G l N_343 5 hI_N_343 (by omega)) kd_163 rfl rfl rfl ⟨by decide, by decide⟩ rfl rfl (Nat.le_of_ble_eq_true rfl) dX12_aRule_302 rfl ?_
                        intro r_375 N_376 q_377
                        obtain ⟨hI_N_376, hG_N_376, q_377c⟩ := q_377
                        have hF_N_376 : Fr f_c_X12_aRule M N_376 := Fr.c hF_N_343 hG_N_376 rfl
                        have h_378 := Inv.g hI_N_376 kd_163 rfl 18 (a := (-2147483648)) (b := 2147483647) rfl rfl
                        have e_379 : (N_376 163 14) = (N_333 163 14) := by rw [Fr.e hG_N_376 kd_163 _ rfl, hM_N_343, mu_k kd_163 kd_164 rfl, hM_N_341, mu_k kd_163 kd_164 rfl]
                        have e_380 : (N_376 163 12) = (N_333 163 12) := by rw [Fr.e hG_N_376 kd_163 _ rfl, hM_N_343, mu_k kd_163 kd_164 rfl, hM_N_341, mu_k kd_163 kd_164 rfl]
                        have e_381 : (N_376 163 14) = (N_333 163 14) := by rw [Fr.e hG_N_376 kd_163 _ rfl, hM_N_343, mu_k kd_163 kd_164 rfl, hM_N_341, mu_k kd_163 kd_164 rfl]
                        have e_382 : (N_376 163 12) = (N_333 163 12) := by rw [Fr.e hG_N_376 kd_163 _ rfl, hM_N_343, mu_k kd_163 kd_164 rfl, hM_N_341, mu_k kd_163 kd_164 rfl]
                        exact kx_zret F hQ (by omega) ⟨hI_N_376, hF_N_376, (by omega), ⟨(LO.fr (LO.sta (LO.sta (LO.ne (LO.ne (LO.fr (LO.fr (LO.rf M) hG_N_12 rfl) hG_N_38 rfl) hx_N_323 (by omega)) hx_N_333 (by omega)) hM_N_341 (by omega)) hM_N_343 (by omega)) hG_N_376 rfl), (fun h => absurd h (by omega))⟩⟩ dX12_aRule_305
                    · refine kx_if_eq 259 F 306 dX12_aRule_256 (by decide) rfl (by omega) (fun h_383 => ?_) (fun h_383 => (by exfalso; omega))
                      refine kx_aload_n 307 F 0 dX12_aRule_306 rfl rfl rfl ?_
                      refine kx_getr 310 F fl_X12_7 kd_163 rfl rfl (j := 0) rfl dX12_aRule_307 (v := 164) (uq_164 (Inv.r hI_N_343 kd_163 rfl 0 rfl rfl)) rfl ?_
                      refine kx_iload_n 311 F 2 dX12_aRule_310 rfl rfl rfl ?_
                      refine kx_iconst 312 F dX12_aRule_311 rfl ?_
                      refine kx_iadd 313 F (v := 85 * a1 + 1192) dX12_aRule_312 (by omega) rfl ?_
                      refine kx_dup2 314 F dX12_aRule_313 rfl rfl rfl ?_
                      refine kx_iald 315 F kd_164 rfl rfl (by omega) (by decide) dX12_aRule_314 (v := (M 164 (85 * a1 + 1192))) (by rw [hM_N_343, mu_i (by omega), hM_N_341, mu_i (by omega), hx_N_333 _ (by omega), hx_N_323 _ (by omega), Fr.e hG_N_38 kd_164 _ rfl, Fr.e hG_N_12 kd_164 _ rfl]) rfl ?_
                      refine kx_iconst 316 F dX12_aRule_315 rfl ?_
                      refine kx_iadd 317 F (v := (M 164 (85 * a1 + 1192)) + 1) dX12_aRule_316 rfl rfl ?_
                      refine kx_iast 318 F kd_164 rfl rfl (by omega) (by decide) dX12_aRule_317 rfl ?_
                      intro N_384 hM_N_384
                      have hI_N_384 : Inv true N_384 := Inv.u hI_N_343 hM_N_384 kd_164 (a := 0) (b := 20) ha_6.1 ha_6.2 rfl (by omega)
                      have hF_N_384 : Fr f_c_X12_aRule M N_384 := Fr.u hF_N_343 hM_N_384 kd_164 rfl
                      refine kx_iconst 319 F dX12_aRule_318 rfl ?_
                      have e_385 : (N_384 163 14) = (N_333 163 14) := by rw [hM_N_384, mu_k kd_163 kd_164 rfl, hM_N_343, mu_k kd_163 kd_164 rfl, hM_N_341, mu_k kd_163 kd_164 rfl]
                      have e_386 : (N_384 163 12) = (N_333 163 12) := by rw [hM_N_384, mu_k kd_163 kd_164 rfl, hM_N_343, mu_k kd_163 kd_164 rfl, hM_N_341, mu_k kd_163 kd_164 rfl]
                      have e_387 : (N_384 163 14) = (N_333 163 14) := by rw [hM_N_384, mu_k kd_163 kd_164 rfl, hM_N_343, mu_k kd_163 kd_164 rfl, hM_N_341, mu_k kd_163 kd_164 rfl]
                      have e_388 : (N_384 163 12) = (N_333 163 12) := by rw [hM_N_384, mu_k kd_163 kd_164 rfl, hM_N_343, mu_k kd_163 kd_164 rfl, hM_N_341, mu_k kd_163 kd_164 rfl]
                      have e_389 : (N_384 163 18) = (N_333 163 18) := by rw [hM_N_384, mu_k kd_163 kd_164 rfl, hM_N_343, mu_k kd_163 kd_164 rfl, hM_N_341, mu_k kd_163 kd_164 rfl]
                      have h_390 := Inv.g hI_N_333 kd_163 rfl 18 (a := (-2147483648)) (b := 2147483647) rfl rfl
                      have e_391 : M 164 (1192 + 85 * a1) = M 164 (85 * a1 + 1192) := by rw [show 1192 + 85 * a1 = 85 * a1 + 1192 by omega]
                      have e_392 : M 164 (1188 + 85 * a1) = M 164 (85 * a1 + 1188) := by rw [show 1188 + 85 * a1 = 85 * a1 + 1188 by omega]
                      have e_393 : N_384 164 (1192 + 85 * a1) = (M 164 (85 * a1 + 1192)) + 1 := by rw [show 1192 + 85 * a1 = 85 * a1 + 1192 by omega, hM_N_384, mu_s]
                      have e_394 : N_384 164 (1194 + 85 * a1 + 4 * (M 164 (85 * a1 + 1192))) = N_323 164 (85 * a1 + 4 * (M 164 (85 * a1 + 1192)) + 1194) := by rw [show 1194 + 85 * a1 + 4 * (M 164 (85 * a1 + 1192)) = 85 * a1 + 4 * (M 164 (85 * a1 + 1192)) + 1194 by omega, hM_N_384, mu_i (by omega), hM_N_343, mu_i (by omega), hM_N_341, mu_i (by omega), hx_N_333 _ (by omega)]
                      have e_395 : N_384 164 (1195 + 85 * a1 + 4 * (M 164 (85 * a1 + 1192))) = N_333 164 (85 * a1 + 4 * (M 164 (85 * a1 + 1192)) + 1195) := by rw [show 1195 + 85 * a1 + 4 * (M 164 (85 * a1 + 1192)) = 85 * a1 + 4 * (M 164 (85 * a1 + 1192)) + 1195 by omega, hM_N_384, mu_i (by omega), hM_N_343, mu_i (by omega), hM_N_341, mu_i (by omega)]
                      exact kx_zret F hQ (by omega) ⟨hI_N_384, hF_N_384, (by omega), ⟨(LO.sta (LO.sta (LO.sta (LO.ne (LO.ne (LO.fr (LO.fr (LO.rf M) hG_N_12 rfl) hG_N_38 rfl) hx_N_323 (by omega)) hx_N_333 (by omega)) hM_N_341 (by omega)) hM_N_343 (by omega)) hM_N_384 (by omega)), (fun _ => (R4.rule hR hI_M a1 (M 164 (85 * a1 + 1192)) (by omega) (by omega) (fun j hj h0 => by rw [hM_N_384, mu_i (by omega), hM_N_343, mu_i (by omega), hM_N_341, mu_i (by omega), hx_N_333 _ (by omega), hx_N_323 _ (by omega), Fr.e hG_N_38 kd_164 _ rfl, Fr.e hG_N_12 kd_164 _ rfl]) (by omega) (by omega) (by omega)))⟩⟩ dX12_aRule_319
                  · refine kx_aload_n 178 F 0 dX12_aRule_177 rfl rfl rfl ?_
                    refine kx_bipush 180 F dX12_aRule_178 (by decide) rfl ?_
                    refine kx_Vi 183 (ci := 0) F (As := [vI 10]) (st := []) vd_X12_250 (c_X12_isThere G l N_343 10 hI_N_343 (by omega)) kd_163 rfl rfl rfl ⟨by decide, by decide⟩ rfl rfl (Nat.le_of_ble_eq_true rfl) dX12_aRule_180 rfl ?_
                    intro r_396 N_397 q_398
                    obtain ⟨hI_N_397, hG_N_397, q_398c⟩ := q_398
                    have hF_N_397 : Fr f_c_X12_aRule M N_397 := Fr.c hF_N_343 hG_N_397 rfl
                    have e_399 : (N_343 163 14) = (N_333 163 14) := by rw [hM_N_343, mu_k kd_163 kd_164 rfl, hM_N_341, mu_k kd_163 kd_164 rfl]
                    have e_400 : (N_343 163 12) = (N_333 163 12) := by rw [hM_N_343, mu_k kd_163 kd_164 rfl, hM_N_341, mu_k kd_163 kd_164 rfl]
                    have h_401 := Inv.g hI_N_397 kd_163 rfl 14 (a := 0) (b := 900) rfl rfl
                    have h_402 := Inv.g hI_N_397 kd_163 rfl 12 (a := 0) (b := 4) rfl rfl
                    have e_403 : (N_343 163 14) = (N_333 163 14) := by rw [hM_N_343, mu_k kd_163 kd_164 rfl, hM_N_341, mu_k kd_163 kd_164 rfl]
                    have e_404 : (N_343 163 12) = (N_333 163 12) := by rw [hM_N_343, mu_k kd_163 kd_164 rfl, hM_N_341, mu_k kd_163 kd_164 rfl]
                    have h_405 := Inv.g hI_N_397 kd_163 rfl 14 (a := 0) (b := 900) rfl rfl
                    have h_406 := Inv.g hI_N_397 kd_163 rfl 12 (a := 0) (b := 4) rfl rfl
                    rcases q_398c with q_398c | q_398c
                    · refine kx_if_ne 186 F 221 dX12_aRule_183 (by decide) rfl (by omega) (fun h_407 => ?_) (fun h_407 => (by exfalso; omega))
                      refine kx_iload 223 F 6 dX12_aRule_221 rfl rfl ?_
                      refine kx_if_ne 226 F 250 dX12_aRule_223 (by decide) rfl (by omega) (fun h_408 => ?_) (fun h_408 => (by exfalso; omega))
                      refine kx_aload_n 251 F 0 dX12_aRule_250 rfl rfl rfl ?_
                      refine kx_bipush 253 F dX12_aRule_251 (by decide) rfl ?_
                      refine kx_Vi 256 (ci := 0) F (As := [vI 59]) (st := []) vd_X12_202 (c_X12_isSign G l N_397 59 hI_N_397 (by omega)) kd_163 rfl rfl rfl ⟨by decide, by decide⟩ rfl rfl (Nat.le_of_ble_eq_true rfl) dX12_aRule_253 rfl ?_
                      intro r_409 N_410 q_411
                      obtain ⟨rfl, q_411c⟩ := q_411
                      rcases q_411c with q_411c | q_411c
                      · refine kx_if_eq 259 F 306 dX12_aRule_256 (by decide) rfl (by omega) (fun h_412 => (by exfalso; omega)) (fun h_412 => ?_)
                        refine kx_aload_n 260 F 0 dX12_aRule_259 rfl rfl rfl ?_
                        refine kx_sipush 263 F dX12_aRule_260 (by decide) rfl ?_
                        refine kx_iload_n 264 F 1 dX12_aRule_263 rfl rfl rfl ?_
                        refine kx_iload_n 265 F 3 dX12_aRule_264 rfl rfl rfl ?_
                        refine kx_iload 267 F 5 dX12_aRule_265 rfl rfl ?_
                        refine kx_aload_n 268 F 0 dX12_aRule_267 rfl rfl rfl ?_
                        refine kx_getr 271 F fl_X12_7 kd_163 rfl rfl (j := 0) rfl dX12_aRule_268 (v := 164) (uq_164 (Inv.r hI_N_397 kd_163 rfl 0 rfl rfl)) rfl ?_
                        refine kx_iload 273 F 4 dX12_aRule_271 rfl rfl ?_
                        refine kx_iconst 274 F dX12_aRule_273 rfl ?_
                        refine kx_iadd 275 F (v := 85 * a1 + 4 * (M 164 (85 * a1 + 1192)) + 1194) dX12_aRule_274 (by omega) rfl ?_
                        refine kx_iald 276 F kd_164 rfl rfl (by omega) (by decide) dX12_aRule_275 (v := (N_323 164 (85 * a1 + 4 * (M 164 (85 * a1 + 1192)) + 1194))) (by rw [Fr.e hG_N_397 kd_164 _ rfl, hM_N_343, mu_i (by omega), hM_N_341, mu_i (by omega), hx_N_333 _ (by omega)]) rfl ?_
                        have h_413 := Inv.g hI_N_323 kd_164 rfl (85 * a1 + 4 * (M 164 (85 * a1 + 1192)) + 1194) (a := 0) (b := 2) ha_321.1 ha_321.2
                        refine kx_aload_n 277 F 0 dX12_aRule_276 rfl rfl rfl ?_
                        refine kx_getr 280 F fl_X12_7 kd_163 rfl rfl (j := 0) rfl dX12_aRule_277 (v := 164) (uq_164 (Inv.r hI_N_397 kd_163 rfl 0 rfl rfl)) rfl ?_
                        refine kx_iload 282 F 4 dX12_aRule_280 rfl rfl ?_
                        refine kx_iconst 283 F dX12_aRule_282 rfl ?_
                        refine kx_iadd 284 F (v := 85 * a1 + 4 * (M 164 (85 * a1 + 1192)) + 1195) dX12_aRule_283 (by omega) rfl ?_
                        refine kx_iald 285 F kd_164 rfl rfl (by omega) (by decide) dX12_aRule_284 (v := (N_333 164 (85 * a1 + 4 * (M 164 (85 * a1 + 1192)) + 1195))) (by rw [Fr.e hG_N_397 kd_164 _ rfl, hM_N_343, mu_i (by omega), hM_N_341, mu_i (by omega)]) rfl ?_
                        have h_414 := Inv.g hI_N_333 kd_164 rfl (85 * a1 + 4 * (M 164 (85 * a1 + 1192)) + 1195) (a := 0) (b := 2) ha_331.1 ha_331.2
                        refine kx_aload_n 286 F 0 dX12_aRule_285 rfl rfl rfl ?_
                        refine kx_getr 289 F fl_X12_7 kd_163 rfl rfl (j := 0) rfl dX12_aRule_286 (v := 164) (uq_164 (Inv.r hI_N_397 kd_163 rfl 0 rfl rfl)) rfl ?_
                        refine kx_iload 291 F 4 dX12_aRule_289 rfl rfl ?_
                        refine kx_iconst 292 F dX12_aRule_291 rfl ?_
                        refine kx_iadd 293 F (v := 85 * a1 + 4 * (M 164 (85 * a1 + 1192)) + 1196) dX12_aRule_292 (by omega) rfl ?_
                        refine kx_iald 294 F kd_164 rfl rfl (by omega) (by decide) dX12_aRule_293 (v := -1) (by rw [Fr.e hG_N_397 kd_164 _ rfl, hM_N_343, mu_s]) rfl ?_
                        refine kx_Vi 297 (ci := 0) F (As := [vI 1088, vI a1, vI (M 164 (85 * a1 + 1192)), vI r_34, vI (N_323 164 (85 * a1 + 4 * (M 164 (85 * a1 + 1192)) + 1194)), vI (N_333 164 (85 * a1 + 4 * (M 164 (85 * a1 + 1192)) + 1195)), vI (-1)]) (st := []) vd_X12_253 (c_isRuleN G l N_397 1088 a1 (M 164 (85 * a1 + 1192)) r_34 (N_323 164 (85 * a1 + 4 * (M 164 (85 * a1 + 1192)) + 1194)) (N_333 164 (85 * a1 + 4 * (M 164 (85 * a1 + 1192)) + 1195)) (-1) hI_N_397 (by omega)) kd_163 rfl rfl rfl ⟨by decide, by decide⟩ rfl rfl (Nat.le_of_ble_eq_true rfl) dX12_aRule_294 rfl ?_
                        intro r_415 N_416 q_417
                        obtain ⟨rfl, q_417c⟩ := q_417
                        refine kx_if_eq 300 F 306 dX12_aRule_297 (by decide) rfl (by omega) (fun h_418 => ?_) (fun h_418 => ?_)
                        · refine kx_aload_n 307 F 0 dX12_aRule_306 rfl rfl rfl ?_
                          refine kx_getr 310 F fl_X12_7 kd_163 rfl rfl (j := 0) rfl dX12_aRule_307 (v := 164) (uq_164 (Inv.r hI_N_397 kd_163 rfl 0 rfl rfl)) rfl ?_
                          refine kx_iload_n 311 F 2 dX12_aRule_310 rfl rfl rfl ?_
                          refine kx_iconst 312 F dX12_aRule_311 rfl ?_
                          refine kx_iadd 313 F (v := 85 * a1 + 1192) dX12_aRule_312 (by omega) rfl ?_
                          refine kx_dup2 314 F dX12_aRule_313 rfl rfl rfl ?_
                          refine kx_iald 315 F kd_164 rfl rfl (by omega) (by decide) dX12_aRule_314 (v := (M 164 (85 * a1 + 1192))) (by rw [Fr.e hG_N_397 kd_164 _ rfl, hM_N_343, mu_i (by omega), hM_N_341, mu_i (by omega), hx_N_333 _ (by omega), hx_N_323 _ (by omega), Fr.e hG_N_38 kd_164 _ rfl, Fr.e hG_N_12 kd_164 _ rfl]) rfl ?_
                          refine kx_iconst 316 F dX12_aRule_315 rfl ?_
                          refine kx_iadd 317 F (v := (M 164 (85 * a1 + 1192)) + 1) dX12_aRule_316 rfl rfl ?_
                          refine kx_iast 318 F kd_164 rfl rfl (by omega) (by decide) dX12_aRule_317 rfl ?_
                          intro N_419 hM_N_419
                          have hI_N_419 : Inv true N_419 := Inv.u hI_N_397 hM_N_419 kd_164 (a := 0) (b := 20) ha_6.1 ha_6.2 rfl (by omega)
                          have hF_N_419 : Fr f_c_X12_aRule M N_419 := Fr.u hF_N_397 hM_N_419 kd_164 rfl
                          refine kx_iconst 319 F dX12_aRule_318 rfl ?_
                          have e_420 : (N_419 163 14) = (N_397 163 14) := by rw [hM_N_419, mu_k kd_163 kd_164 rfl]
                          have e_421 : (N_419 163 12) = (N_397 163 12) := by rw [hM_N_419, mu_k kd_163 kd_164 rfl]
                          have e_422 : (N_419 163 14) = (N_397 163 14) := by rw [hM_N_419, mu_k kd_163 kd_164 rfl]
                          have e_423 : (N_419 163 12) = (N_397 163 12) := by rw [hM_N_419, mu_k kd_163 kd_164 rfl]
                          have e_424 : (N_419 163 18) = (N_333 163 18) := by rw [hM_N_419, mu_k kd_163 kd_164 rfl, Fr.e hG_N_397 kd_163 _ rfl, hM_N_343, mu_k kd_163 kd_164 rfl, hM_N_341, mu_k kd_163 kd_164 rfl]
                          have h_425 := Inv.g hI_N_333 kd_163 rfl 18 (a := (-2147483648)) (b := 2147483647) rfl rfl
                          have e_426 : M 164 (1192 + 85 * a1) = M 164 (85 * a1 + 1192) := by rw [show 1192 + 85 * a1 = 85 * a1 + 1192 by omega]
                          have e_427 : M 164 (1188 + 85 * a1) = M 164 (85 * a1 + 1188) := by rw [show 1188 + 85 * a1 = 85 * a1 + 1188 by omega]
                          have e_428 : N_419 164 (1192 + 85 * a1) = (M 164 (85 * a1 + 1192)) + 1 := by rw [show 1192 + 85 * a1 = 85 * a1 + 1192 by omega, hM_N_419, mu_s]
                          have e_429 : N_419 164 (1194 + 85 * a1 + 4 * (M 164 (85 * a1 + 1192))) = N_323 164 (85 * a1 + 4 * (M 164 (85 * a1 + 1192)) + 1194) := by rw [show 1194 + 85 * a1 + 4 * (M 164 (85 * a1 + 1192)) = 85 * a1 + 4 * (M 164 (85 * a1 + 1192)) + 1194 by omega, hM_N_419, mu_i (by omega), Fr.e hG_N_397 kd_164 _ rfl, hM_N_343, mu_i (by omega), hM_N_341, mu_i (by omega), hx_N_333 _ (by omega)]
                          have e_430 : N_419 164 (1195 + 85 * a1 + 4 * (M 164 (85 * a1 + 1192))) = N_333 164 (85 * a1 + 4 * (M 164 (85 * a1 + 1192)) + 1195) := by rw [show 1195 + 85 * a1 + 4 * (M 164 (85 * a1 + 1192)) = 85 * a1 + 4 * (M 164 (85 * a1 + 1192)) + 1195 by omega, hM_N_419, mu_i (by omega), Fr.e hG_N_397 kd_164 _ rfl, hM_N_343, mu_i (by omega), hM_N_341, mu_i (by omega)]
                          exact kx_zret F hQ (by omega) ⟨hI_N_419, hF_N_419, (by omega), ⟨(LO.sta (LO.fr (LO.sta (LO.sta (LO.ne (LO.ne (LO.fr (LO.fr (LO.rf M) hG_N_12 rfl) hG_N_38 rfl) hx_N_323 (by omega)) hx_N_333 (by omega)) hM_N_341 (by omega)) hM_N_343 (by omega)) hG_N_397 rfl) hM_N_419 (by omega)), (fun _ => (R4.rule hR hI_M a1 (M 164 (85 * a1 + 1192)) (by omega) (by omega) (fun j hj h0 => by rw [hM_N_419, mu_i (by omega), Fr.e hG_N_397 kd_164 _ rfl, hM_N_343, mu_i (by omega), hM_N_341, mu_i (by omega), hx_N_333 _ (by omega), hx_N_323 _ (by omega), Fr.e hG_N_38 kd_164 _ rfl, Fr.e hG_N_12 kd_164 _ rfl]) (by omega) (by omega) (by omega)))⟩⟩ dX12_aRule_319
                        · refine kx_aload_n 301 F 0 dX12_aRule_300 rfl rfl rfl ?_
                          refine kx_iconst 302 F dX12_aRule_301 rfl ?_
                          refine kx_Vi 305 (ci := 0) F (As := [vI 5]) (st := []) vd_X12_205 (c_X12_fails G l N_397 5 hI_N_397 (by omega)) kd_163 rfl rfl rfl ⟨by decide, by decide⟩ rfl rfl (Nat.le_of_ble_eq_true rfl) dX12_aRule_302 rfl ?_
                          intro r_431 N_432 q_433
                          obtain ⟨hI_N_432, hG_N_432, q_433c⟩ := q_433
                          have hF_N_432 : Fr f_c_X12_aRule M N_432 := Fr.c hF_N_397 hG_N_432 rfl
                          have h_434 := Inv.g hI_N_432 kd_163 rfl 18 (a := (-2147483648)) (b := 2147483647) rfl rfl
                          have e_435 : (N_432 163 14) = (N_397 163 14) := by rw [Fr.e hG_N_432 kd_163 _ rfl]
                          have e_436 : (N_432 163 12) = (N_397 163 12) := by rw [Fr.e hG_N_432 kd_163 _ rfl]
                          have e_437 : (N_432 163 14) = (N_397 163 14) := by rw [Fr.e hG_N_432 kd_163 _ rfl]
                          have e_438 : (N_432 163 12) = (N_397 163 12) := by rw [Fr.e hG_N_432 kd_163 _ rfl]
                          exact kx_zret F hQ (by omega) ⟨hI_N_432, hF_N_432, (by omega), ⟨(LO.fr (LO.fr (LO.sta (LO.sta (LO.ne (LO.ne (LO.fr (LO.fr (LO.rf M) hG_N_12 rfl) hG_N_38 rfl) hx_N_323 (by omega)) hx_N_333 (by omega)) hM_N_341 (by omega)) hM_N_343 (by omega)) hG_N_397 rfl) hG_N_432 rfl), (fun h => absurd h (by omega))⟩⟩ dX12_aRule_305
                      · refine kx_if_eq 259 F 306 dX12_aRule_256 (by decide) rfl (by omega) (fun h_439 => ?_) (fun h_439 => (by exfalso; omega))
                        refine kx_aload_n 307 F 0 dX12_aRule_306 rfl rfl rfl ?_
                        refine kx_getr 310 F fl_X12_7 kd_163 rfl rfl (j := 0) rfl dX12_aRule_307 (v := 164) (uq_164 (Inv.r hI_N_397 kd_163 rfl 0 rfl rfl)) rfl ?_
                        refine kx_iload_n 311 F 2 dX12_aRule_310 rfl rfl rfl ?_
                        refine kx_iconst 312 F dX12_aRule_311 rfl ?_
                        refine kx_iadd 313 F (v := 85 * a1 + 1192) dX12_aRule_312 (by omega) rfl ?_
                        refine kx_dup2 314 F dX12_aRule_313 rfl rfl rfl ?_
                        refine kx_iald 315 F kd_164 rfl rfl (by omega) (by decide) dX12_aRule_314 (v := (M 164 (85 * a1 + 1192))) (by rw [Fr.e hG_N_397 kd_164 _ rfl, hM_N_343, mu_i (by omega), hM_N_341, mu_i (by omega), hx_N_333 _ (by omega), hx_N_323 _ (by omega), Fr.e hG_N_38 kd_164 _ rfl, Fr.e hG_N_12 kd_164 _ rfl]) rfl ?_
                        refine kx_iconst 316 F dX12_aRule_315 rfl ?_
                        refine kx_iadd 317 F (v := (M 164 (85 * a1 + 1192)) + 1) dX12_aRule_316 rfl rfl ?_
                        refine kx_iast 318 F kd_164 rfl rfl (by omega) (by decide) dX12_aRule_317 rfl ?_
                        intro N_440 hM_N_440
                        have hI_N_440 : Inv true N_440 := Inv.u hI_N_397 hM_N_440 kd_164 (a := 0) (b := 20) ha_6.1 ha_6.2 rfl (by omega)
                        have hF_N_440 : Fr f_c_X12_aRule M N_440 := Fr.u hF_N_397 hM_N_440 kd_164 rfl
                        refine kx_iconst 319 F dX12_aRule_318 rfl ?_
                        have e_441 : (N_440 163 14) = (N_397 163 14) := by rw [hM_N_440, mu_k kd_163 kd_164 rfl]
                        have e_442 : (N_440 163 12) = (N_397 163 12) := by rw [hM_N_440, mu_k kd_163 kd_164 rfl]
                        have e_443 : (N_440 163 14) = (N_397 163 14) := by rw [hM_N_440, mu_k kd_163 kd_164 rfl]
                        have e_444 : (N_440 163 12) = (N_397 163 12) := by rw [hM_N_440, mu_k kd_163 kd_164 rfl]
                        have e_445 : (N_440 163 18) = (N_333 163 18) := by rw [hM_N_440, mu_k kd_163 kd_164 rfl, Fr.e hG_N_397 kd_163 _ rfl, hM_N_343, mu_k kd_163 kd_164 rfl, hM_N_341, mu_k kd_163 kd_164 rfl]
                        have h_446 := Inv.g hI_N_333 kd_163 rfl 18 (a := (-2147483648)) (b := 2147483647) rfl rfl
                        have e_447 : M 164 (1192 + 85 * a1) = M 164 (85 * a1 + 1192) := by rw [show 1192 + 85 * a1 = 85 * a1 + 1192 by omega]
                        have e_448 : M 164 (1188 + 85 * a1) = M 164 (85 * a1 + 1188) := by rw [show 1188 + 85 * a1 = 85 * a1 + 1188 by omega]
                        have e_449 : N_440 164 (1192 + 85 * a1) = (M 164 (85 * a1 + 1192)) + 1 := by rw [show 1192 + 85 * a1 = 85 * a1 + 1192 by omega, hM_N_440, mu_s]
                        have e_450 : N_440 164 (1194 + 85 * a1 + 4 * (M 164 (85 * a1 + 1192))) = N_323 164 (85 * a1 + 4 * (M 164 (85 * a1 + 1192)) + 1194) := by rw [show 1194 + 85 * a1 + 4 * (M 164 (85 * a1 + 1192)) = 85 * a1 + 4 * (M 164 (85 * a1 + 1192)) + 1194 by omega, hM_N_440, mu_i (by omega), Fr.e hG_N_397 kd_164 _ rfl, hM_N_343, mu_i (by omega), hM_N_341, mu_i (by omega), hx_N_333 _ (by omega)]
                        have e_451 : N_440 164 (1195 + 85 * a1 + 4 * (M 164 (85 * a1 + 1192))) = N_333 164 (85 * a1 + 4 * (M 164 (85 * a1 + 1192)) + 1195) := by rw [show 1195 + 85 * a1 + 4 * (M 164 (85 * a1 + 1192)) = 85 * a1 + 4 * (M 164 (85 * a1 + 1192)) + 1195 by omega, hM_N_440, mu_i (by omega), Fr.e hG_N_397 kd_164 _ rfl, hM_N_343, mu_i (by omega), hM_N_341, mu_i (by omega)]
                        exact kx_zret F hQ (by omega) ⟨hI_N_440, hF_N_440, (by omega), ⟨(LO.sta (LO.fr (LO.sta (LO.sta (LO.ne (LO.ne (LO.fr (LO.fr (LO.rf M) hG_N_12 rfl) hG_N_38 rfl) hx_N_323 (by omega)) hx_N_333 (by omega)) hM_N_341 (by omega)) hM_N_343 (by omega)) hG_N_397 rfl) hM_N_440 (by omega)), (fun _ => (R4.rule hR hI_M a1 (M 164 (85 * a1 + 1192)) (by omega) (by omega) (fun j hj h0 => by rw [hM_N_440, mu_i (by omega), Fr.e hG_N_397 kd_164 _ rfl, hM_N_343, mu_i (by omega), hM_N_341, mu_i (by omega), hx_N_333 _ (by omega), hx_N_323 _ (by omega), Fr.e hG_N_38 kd_164 _ rfl, Fr.e hG_N_12 kd_164 _ rfl]) (by omega) (by omega) (by omega)))⟩⟩ dX12_aRule_319
                    · refine kx_if_ne 186 F 221 dX12_aRule_183 (by decide) rfl (by omega) (fun h_452 => (by exfalso; omega)) (fun h_452 => ?_)
                      refine kx_aload_n 187 F 0 dX12_aRule_186 rfl rfl rfl ?_
                      refine kx_ldcS 189 F 11 (by decide) rfl rfl dX12_aRule_187 rfl ?_
                      refine kx_bipush 191 F dX12_aRule_189 (by decide) rfl ?_
                      refine kx_Vi 194 (ci := 0) F (As := [vT G 11, vI 9]) (st := []) vd_X12_235 (c_X12_wantWord G l N_397 9 hI_N_397 (by omega)) kd_163 rfl rfl rfl ⟨by decide, by decide⟩ rfl rfl (Nat.le_of_ble_eq_true rfl) dX12_aRule_191 rfl ?_
                      intro r_453 N_454 q_455
                      obtain ⟨hI_N_454, hG_N_454, q_455c⟩ := q_455
                      have hF_N_454 : Fr f_c_X12_aRule M N_454 := Fr.c hF_N_397 hG_N_454 rfl
                      have h_456 := Inv.g hI_N_454 kd_163 rfl 14 (a := 0) (b := 900) rfl rfl
                      have h_457 := Inv.g hI_N_454 kd_163 rfl 12 (a := 0) (b := 4) rfl rfl
                      have h_458 := Inv.g hI_N_454 kd_163 rfl 14 (a := 0) (b := 900) rfl rfl
                      have h_459 := Inv.g hI_N_454 kd_163 rfl 12 (a := 0) (b := 4) rfl rfl
                      have h_460 := Inv.g hI_N_454 kd_163 rfl 18 (a := (-2147483648)) (b := 2147483647) rfl rfl
                      rcases q_455c with q_455c | q_455c
                      · refine kx_if_eq 197 F 219 dX12_aRule_194 (by decide) rfl (by omega) (fun h_461 => (by exfalso; omega)) (fun h_461 => ?_)
                        refine kx_aload_n 198 F 0 dX12_aRule_197 rfl rfl rfl ?_
                        refine kx_iload 200 F 4 dX12_aRule_198 rfl rfl ?_
                        refine kx_iconst 201 F dX12_aRule_200 rfl ?_
                        refine kx_iadd 202 F (v := 85 * a1 + 4 * (M 164 (85 * a1 + 1192)) + 1196) dX12_aRule_201 (by omega) rfl ?_
                        refine kx_iconst 203 F dX12_aRule_202 rfl ?_
                        refine kx_aload_n 204 F 0 dX12_aRule_203 rfl rfl rfl ?_
                        refine kx_getr 207 F fl_X12_7 kd_163 rfl rfl (j := 0) rfl dX12_aRule_204 (v := 164) (uq_164 (Inv.r hI_N_454 kd_163 rfl 0 rfl rfl)) rfl ?_
                        refine kx_iload_n 208 F 2 dX12_aRule_207 rfl rfl rfl ?_
                        refine kx_iconst 209 F dX12_aRule_208 rfl ?_
                        refine kx_iadd 210 F (v := 85 * a1 + 1189) dX12_aRule_209 (by omega) rfl ?_
                        refine kx_iald 211 F kd_164 rfl rfl (by omega) (by decide) dX12_aRule_210 (v := (M 164 (85 * a1 + 1189))) (by rw [Fr.e hG_N_454 kd_164 _ rfl, Fr.e hG_N_397 kd_164 _ rfl, hM_N_343, mu_i (by omega), hM_N_341, mu_i (by omega), hx_N_333 _ (by omega), hx_N_323 _ (by omega), Fr.e hG_N_38 kd_164 _ rfl, Fr.e hG_N_12 kd_164 _ rfl]) rfl ?_
                        have ha_462 : atlo (85 * a1 + 1189) = 0 ∧ athi (85 * a1 + 1189) = 3 := at_a (85 * a1 + 1189) 4 a1 1 (by omega) (by omega) (by decide)
                        have h_463 := Inv.g hI_M kd_164 rfl (85 * a1 + 1189) (a := 0) (b := 3) ha_462.1 ha_462.2
                        refine kx_iconst 212 F dX12_aRule_211 rfl ?_
                        refine kx_isub 213 F (v := (M 164 (85 * a1 + 1189)) - 1) dX12_aRule_212 rfl rfl ?_
                        refine kx_Vi 216 (ci := 0) F (As := [vI (85 * a1 + 4 * (M 164 (85 * a1 + 1192)) + 1196), vI 0, vI ((M 164 (85 * a1 + 1189)) - 1)]) (st := []) vd_X12_231 (c_X12_number G l N_454 (85 * a1 + 4 * (M 164 (85 * a1 + 1192)) + 1196) 0 ((M 164 (85 * a1 + 1189)) - 1) hI_N_454 (by omega)) kd_163 rfl rfl rfl ⟨by decide, by decide⟩ rfl rfl (Nat.le_of_ble_eq_true rfl) dX12_aRule_213 rfl ?_
                        intro r_464 N_465 q_466
                        obtain ⟨hI_N_465, hG_N_465, q_466c, hx_N_465⟩ := q_466
                        have hF_N_465 : Fr f_c_X12_aRule M N_465 := Fr.c hF_N_454 hG_N_465 rfl
                        have h_467 := Inv.g hI_N_465 kd_163 rfl 14 (a := 0) (b := 900) rfl rfl
                        have h_468 := Inv.g hI_N_465 kd_163 rfl 12 (a := 0) (b := 4) rfl rfl
                        have h_469 := Inv.g hI_N_465 kd_163 rfl 14 (a := 0) (b := 900) rfl rfl
                        have h_470 := Inv.g hI_N_465 kd_163 rfl 12 (a := 0) (b := 4) rfl rfl
                        have h_471 := Inv.g hI_N_465 kd_163 rfl 18 (a := (-2147483648)) (b := 2147483647) rfl rfl
                        rcases q_466c with q_466c | q_466c
                        · refine kx_if_ne 219 F 221 dX12_aRule_216 (by decide) rfl (by omega) (fun h_472 => ?_) (fun h_472 => (by exfalso; omega))
                          refine kx_iload 223 F 6 dX12_aRule_221 rfl rfl ?_
                          refine kx_if_ne 226 F 250 dX12_aRule_223 (by decide) rfl (by omega) (fun h_473 => ?_) (fun h_473 => (by exfalso; omega))
                          refine kx_aload_n 251 F 0 dX12_aRule_250 rfl rfl rfl ?_
                          refine kx_bipush 253 F dX12_aRule_251 (by decide) rfl ?_
                          refine kx_Vi 256 (ci := 0) F (As := [vI 59]) (st := []) vd_X12_202 (c_X12_isSign G l N_465 59 hI_N_465 (by omega)) kd_163 rfl rfl rfl ⟨by decide, by decide⟩ rfl rfl (Nat.le_of_ble_eq_true rfl) dX12_aRule_253 rfl ?_
                          intro r_474 N_475 q_476
                          obtain ⟨rfl, q_476c⟩ := q_476
                          rcases q_476c with q_476c | q_476c
                          · refine kx_if_eq 259 F 306 dX12_aRule_256 (by decide) rfl (by omega) (fun h_477 => (by exfalso; omega)) (fun h_477 => ?_)
                            refine kx_aload_n 260 F 0 dX12_aRule_259 rfl rfl rfl ?_
                            refine kx_sipush 263 F dX12_aRule_260 (by decide) rfl ?_
                            refine kx_iload_n 264 F 1 dX12_aRule_263 rfl rfl rfl ?_
                            refine kx_iload_n 265 F 3 dX12_aRule_264 rfl rfl rfl ?_
                            refine kx_iload 267 F 5 dX12_aRule_265 rfl rfl ?_
                            refine kx_aload_n 268 F 0 dX12_aRule_267 rfl rfl rfl ?_
                            refine kx_getr 271 F fl_X12_7 kd_163 rfl rfl (j := 0) rfl dX12_aRule_268 (v := 164) (uq_164 (Inv.r hI_N_465 kd_163 rfl 0 rfl rfl)) rfl ?_
                            refine kx_iload 273 F 4 dX12_aRule_271 rfl rfl ?_
                            refine kx_iconst 274 F dX12_aRule_273 rfl ?_
                            refine kx_iadd 275 F (v := 85 * a1 + 4 * (M 164 (85 * a1 + 1192)) + 1194) dX12_aRule_274 (by omega) rfl ?_
                            refine kx_iald 276 F kd_164 rfl rfl (by omega) (by decide) dX12_aRule_275 (v := (N_323 164 (85 * a1 + 4 * (M 164 (85 * a1 + 1192)) + 1194))) (by rw [hx_N_465 _ (by omega), Fr.e hG_N_454 kd_164 _ rfl, Fr.e hG_N_397 kd_164 _ rfl, hM_N_343, mu_i (by omega), hM_N_341, mu_i (by omega), hx_N_333 _ (by omega)]) rfl ?_
                            have h_478 := Inv.g hI_N_323 kd_164 rfl (85 * a1 + 4 * (M 164 (85 * a1 + 1192)) + 1194) (a := 0) (b := 2) ha_321.1 ha_321.2
                            refine kx_aload_n 277 F 0 dX12_aRule_276 rfl rfl rfl ?_
                            refine kx_getr 280 F fl_X12_7 kd_163 rfl rfl (j := 0) rfl dX12_aRule_277 (v := 164) (uq_164 (Inv.r hI_N_465 kd_163 rfl 0 rfl rfl)) rfl ?_
                            refine kx_iload 282 F 4 dX12_aRule_280 rfl rfl ?_
                            refine kx_iconst 283 F dX12_aRule_282 rfl ?_
                            refine kx_iadd 284 F (v := 85 * a1 + 4 * (M 164 (85 * a1 + 1192)) + 1195) dX12_aRule_283 (by omega) rfl ?_
                            refine kx_iald 285 F kd_164 rfl rfl (by omega) (by decide) dX12_aRule_284 (v := (N_333 164 (85 * a1 + 4 * (M 164 (85 * a1 + 1192)) + 1195))) (by rw [hx_N_465 _ (by omega), Fr.e hG_N_454 kd_164 _ rfl, Fr.e hG_N_397 kd_164 _ rfl, hM_N_343, mu_i (by omega), hM_N_341, mu_i (by omega)]) rfl ?_
                            have h_479 := Inv.g hI_N_333 kd_164 rfl (85 * a1 + 4 * (M 164 (85 * a1 + 1192)) + 1195) (a := 0) (b := 2) ha_331.1 ha_331.2
                            refine kx_aload_n 286 F 0 dX12_aRule_285 rfl rfl rfl ?_
                            refine kx_getr 289 F fl_X12_7 kd_163 rfl rfl (j := 0) rfl dX12_aRule_286 (v := 164) (uq_164 (Inv.r hI_N_465 kd_163 rfl 0 rfl rfl)) rfl ?_
                            refine kx_iload 291 F 4 dX12_aRule_289 rfl rfl ?_
                            refine kx_iconst 292 F dX12_aRule_291 rfl ?_
                            refine kx_iadd 293 F (v := 85 * a1 + 4 * (M 164 (85 * a1 + 1192)) + 1196) dX12_aRule_292 (by omega) rfl ?_
                            refine kx_iald 294 F kd_164 rfl rfl (by omega) (by decide) dX12_aRule_293 (v := (N_465 164 (85 * a1 + 4 * (M 164 (85 * a1 + 1192)) + 1196))) rfl rfl ?_
                            have h_480 := Inv.g hI_N_465 kd_164 rfl (85 * a1 + 4 * (M 164 (85 * a1 + 1192)) + 1196) (a := (-1)) (b := 2) ha_344.1 ha_344.2
                            refine kx_Vi 297 (ci := 0) F (As := [vI 1088, vI a1, vI (M 164 (85 * a1 + 1192)), vI r_34, vI (N_323 164 (85 * a1 + 4 * (M 164 (85 * a1 + 1192)) + 1194)), vI (N_333 164 (85 * a1 + 4 * (M 164 (85 * a1 + 1192)) + 1195)), vI (N_465 164 (85 * a1 + 4 * (M 164 (85 * a1 + 1192)) + 1196))]) (st := []) vd_X12_253 (c_isRuleN G l N_465 1088 a1 (M 164 (85 * a1 + 1192)) r_34 (N_323 164 (85 * a1 + 4 * (M 164 (85 * a1 + 1192)) + 1194)) (N_333 164 (85 * a1 + 4 * (M 164 (85 * a1 + 1192)) + 1195)) (N_465 164 (85 * a1 + 4 * (M 164 (85 * a1 + 1192)) + 1196)) hI_N_465 (by omega)) kd_163 rfl rfl rfl ⟨by decide, by decide⟩ rfl rfl (Nat.le_of_ble_eq_true rfl) dX12_aRule_294 rfl ?_
                            intro r_481 N_482 q_483
                            obtain ⟨rfl, q_483c⟩ := q_483
                            refine kx_if_eq 300 F 306 dX12_aRule_297 (by decide) rfl (by omega) (fun h_484 => ?_) (fun h_484 => ?_)
                            · refine kx_aload_n 307 F 0 dX12_aRule_306 rfl rfl rfl ?_
                              refine kx_getr 310 F fl_X12_7 kd_163 rfl rfl (j := 0) rfl dX12_aRule_307 (v := 164) (uq_164 (Inv.r hI_N_465 kd_163 rfl 0 rfl rfl)) rfl ?_
                              refine kx_iload_n 311 F 2 dX12_aRule_310 rfl rfl rfl ?_
                              refine kx_iconst 312 F dX12_aRule_311 rfl ?_
                              refine kx_iadd 313 F (v := 85 * a1 + 1192) dX12_aRule_312 (by omega) rfl ?_
                              refine kx_dup2 314 F dX12_aRule_313 rfl rfl rfl ?_
                              refine kx_iald 315 F kd_164 rfl rfl (by omega) (by decide) dX12_aRule_314 (v := (M 164 (85 * a1 + 1192))) (by rw [hx_N_465 _ (by omega), Fr.e hG_N_454 kd_164 _ rfl, Fr.e hG_N_397 kd_164 _ rfl, hM_N_343, mu_i (by omega), hM_N_341, mu_i (by omega), hx_N_333 _ (by omega), hx_N_323 _ (by omega), Fr.e hG_N_38 kd_164 _ rfl, Fr.e hG_N_12 kd_164 _ rfl]) rfl ?_
                              refine kx_iconst 316 F dX12_aRule_315 rfl ?_
                              refine kx_iadd 317 F (v := (M 164 (85 * a1 + 1192)) + 1) dX12_aRule_316 rfl rfl ?_
                              refine kx_iast 318 F kd_164 rfl rfl (by omega) (by decide) dX12_aRule_317 rfl ?_
                              intro N_485 hM_N_485
                              have hI_N_485 : Inv true N_485 := Inv.u hI_N_465 hM_N_485 kd_164 (a := 0) (b := 20) ha_6.1 ha_6.2 rfl (by omega)
                              have hF_N_485 : Fr f_c_X12_aRule M N_485 := Fr.u hF_N_465 hM_N_485 kd_164 rfl
                              refine kx_iconst 319 F dX12_aRule_318 rfl ?_
                              have e_486 : (N_485 163 14) = (N_465 163 14) := by rw [hM_N_485, mu_k kd_163 kd_164 rfl]
                              have e_487 : (N_485 163 12) = (N_465 163 12) := by rw [hM_N_485, mu_k kd_163 kd_164 rfl]
                              have e_488 : (N_485 163 14) = (N_465 163 14) := by rw [hM_N_485, mu_k kd_163 kd_164 rfl]
                              have e_489 : (N_485 163 12) = (N_465 163 12) := by rw [hM_N_485, mu_k kd_163 kd_164 rfl]
                              have e_490 : (N_485 163 18) = (N_465 163 18) := by rw [hM_N_485, mu_k kd_163 kd_164 rfl]
                              have h_491 := Inv.g hI_N_465 kd_163 rfl 18 (a := (-2147483648)) (b := 2147483647) rfl rfl
                              have e_492 : M 164 (1192 + 85 * a1) = M 164 (85 * a1 + 1192) := by rw [show 1192 + 85 * a1 = 85 * a1 + 1192 by omega]
                              have e_493 : M 164 (1188 + 85 * a1) = M 164 (85 * a1 + 1188) := by rw [show 1188 + 85 * a1 = 85 * a1 + 1188 by omega]
                              have e_494 : N_485 164 (1192 + 85 * a1) = (M 164 (85 * a1 + 1192)) + 1 := by rw [show 1192 + 85 * a1 = 85 * a1 + 1192 by omega, hM_N_485, mu_s]
                              have e_495 : N_485 164 (1194 + 85 * a1 + 4 * (M 164 (85 * a1 + 1192))) = N_323 164 (85 * a1 + 4 * (M 164 (85 * a1 + 1192)) + 1194) := by rw [show 1194 + 85 * a1 + 4 * (M 164 (85 * a1 + 1192)) = 85 * a1 + 4 * (M 164 (85 * a1 + 1192)) + 1194 by omega, hM_N_485, mu_i (by omega), hx_N_465 _ (by omega), Fr.e hG_N_454 kd_164 _ rfl, Fr.e hG_N_397 kd_164 _ rfl, hM_N_343, mu_i (by omega), hM_N_341, mu_i (by omega), hx_N_333 _ (by omega)]
                              have e_496 : N_485 164 (1195 + 85 * a1 + 4 * (M 164 (85 * a1 + 1192))) = N_333 164 (85 * a1 + 4 * (M 164 (85 * a1 + 1192)) + 1195) := by rw [show 1195 + 85 * a1 + 4 * (M 164 (85 * a1 + 1192)) = 85 * a1 + 4 * (M 164 (85 * a1 + 1192)) + 1195 by omega, hM_N_485, mu_i (by omega), hx_N_465 _ (by omega), Fr.e hG_N_454 kd_164 _ rfl, Fr.e hG_N_397 kd_164 _ rfl, hM_N_343, mu_i (by omega), hM_N_341, mu_i (by omega)]
                              exact kx_zret F hQ (by omega) ⟨hI_N_485, hF_N_485, (by omega), ⟨(LO.sta (LO.ne (LO.fr (LO.fr (LO.sta (LO.sta (LO.ne (LO.ne (LO.fr (LO.fr (LO.rf M) hG_N_12 rfl) hG_N_38 rfl) hx_N_323 (by omega)) hx_N_333 (by omega)) hM_N_341 (by omega)) hM_N_343 (by omega)) hG_N_397 rfl) hG_N_454 rfl) hx_N_465 (by omega)) hM_N_485 (by omega)), (fun _ => (R4.rule hR hI_M a1 (M 164 (85 * a1 + 1192)) (by omega) (by omega) (fun j hj h0 => by rw [hM_N_485, mu_i (by omega), hx_N_465 _ (by omega), Fr.e hG_N_454 kd_164 _ rfl, Fr.e hG_N_397 kd_164 _ rfl, hM_N_343, mu_i (by omega), hM_N_341, mu_i (by omega), hx_N_333 _ (by omega), hx_N_323 _ (by omega), Fr.e hG_N_38 kd_164 _ rfl, Fr.e hG_N_12 kd_164 _ rfl]) (by omega) (by omega) (by omega)))⟩⟩ dX12_aRule_319
                            · refine kx_aload_n 301 F 0 dX12_aRule_300 rfl rfl rfl ?_
                              refine kx_iconst 302 F dX12_aRule_301 rfl ?_
                              refine kx_Vi 305 (ci := 0) F (As := [vI 5]) (st := []) vd_X12_205 (c_X12_fails G l N_465 5 hI_N_465 (by omega)) kd_163 rfl rfl rfl ⟨by decide, by decide⟩ rfl rfl (Nat.le_of_ble_eq_true rfl) dX12_aRule_302 rfl ?_
                              intro r_497 N_498 q_499
                              obtain ⟨hI_N_498, hG_N_498, q_499c⟩ := q_499
                              have hF_N_498 : Fr f_c_X12_aRule M N_498 := Fr.c hF_N_465 hG_N_498 rfl
                              have h_500 := Inv.g hI_N_498 kd_163 rfl 18 (a := (-2147483648)) (b := 2147483647) rfl rfl
                              have e_501 : (N_498 163 14) = (N_465 163 14) := by rw [Fr.e hG_N_498 kd_163 _ rfl]
                              have e_502 : (N_498 163 12) = (N_465 163 12) := by rw [Fr.e hG_N_498 kd_163 _ rfl]
                              have e_503 : (N_498 163 14) = (N_465 163 14) := by rw [Fr.e hG_N_498 kd_163 _ rfl]
                              have e_504 : (N_498 163 12) = (N_465 163 12) := by rw [Fr.e hG_N_498 kd_163 _ rfl]
                              exact kx_zret F hQ (by omega) ⟨hI_N_498, hF_N_498, (by omega), ⟨(LO.fr (LO.ne (LO.fr (LO.fr (LO.sta (LO.sta (LO.ne (LO.ne (LO.fr (LO.fr (LO.rf M) hG_N_12 rfl) hG_N_38 rfl) hx_N_323 (by omega)) hx_N_333 (by omega)) hM_N_341 (by omega)) hM_N_343 (by omega)) hG_N_397 rfl) hG_N_454 rfl) hx_N_465 (by omega)) hG_N_498 rfl), (fun h => absurd h (by omega))⟩⟩ dX12_aRule_305
                          · refine kx_if_eq 259 F 306 dX12_aRule_256 (by decide) rfl (by omega) (fun h_505 => ?_) (fun h_505 => (by exfalso; omega))
                            refine kx_aload_n 307 F 0 dX12_aRule_306 rfl rfl rfl ?_
                            refine kx_getr 310 F fl_X12_7 kd_163 rfl rfl (j := 0) rfl dX12_aRule_307 (v := 164) (uq_164 (Inv.r hI_N_465 kd_163 rfl 0 rfl rfl)) rfl ?_
                            refine kx_iload_n 311 F 2 dX12_aRule_310 rfl rfl rfl ?_
                            refine kx_iconst 312 F dX12_aRule_311 rfl ?_
                            refine kx_iadd 313 F (v := 85 * a1 + 1192) dX12_aRule_312 (by omega) rfl ?_
                            refine kx_dup2 314 F dX12_aRule_313 rfl rfl rfl ?_
                            refine kx_iald 315 F kd_164 rfl rfl (by omega) (by decide) dX12_aRule_314 (v := (M 164 (85 * a1 + 1192))) (by rw [hx_N_465 _ (by omega), Fr.e hG_N_454 kd_164 _ rfl, Fr.e hG_N_397 kd_164 _ rfl, hM_N_343, mu_i (by omega), hM_N_341, mu_i (by omega), hx_N_333 _ (by omega), hx_N_323 _ (by omega), Fr.e hG_N_38 kd_164 _ rfl, Fr.e hG_N_12 kd_164 _ rfl]) rfl ?_
                            refine kx_iconst 316 F dX12_aRule_315 rfl ?_
                            refine kx_iadd 317 F (v := (M 164 (85 * a1 + 1192)) + 1) dX12_aRule_316 rfl rfl ?_
                            refine kx_iast 318 F kd_164 rfl rfl (by omega) (by decide) dX12_aRule_317 rfl ?_
                            intro N_506 hM_N_506
                            have hI_N_506 : Inv true N_506 := Inv.u hI_N_465 hM_N_506 kd_164 (a := 0) (b := 20) ha_6.1 ha_6.2 rfl (by omega)
                            have hF_N_506 : Fr f_c_X12_aRule M N_506 := Fr.u hF_N_465 hM_N_506 kd_164 rfl
                            refine kx_iconst 319 F dX12_aRule_318 rfl ?_
                            have e_507 : (N_506 163 14) = (N_465 163 14) := by rw [hM_N_506, mu_k kd_163 kd_164 rfl]
                            have e_508 : (N_506 163 12) = (N_465 163 12) := by rw [hM_N_506, mu_k kd_163 kd_164 rfl]
                            have e_509 : (N_506 163 14) = (N_465 163 14) := by rw [hM_N_506, mu_k kd_163 kd_164 rfl]
                            have e_510 : (N_506 163 12) = (N_465 163 12) := by rw [hM_N_506, mu_k kd_163 kd_164 rfl]
                            have e_511 : (N_506 163 18) = (N_465 163 18) := by rw [hM_N_506, mu_k kd_163 kd_164 rfl]
                            have h_512 := Inv.g hI_N_465 kd_163 rfl 18 (a := (-2147483648)) (b := 2147483647) rfl rfl
                            have e_513 : M 164 (1192 + 85 * a1) = M 164 (85 * a1 + 1192) := by rw [show 1192 + 85 * a1 = 85 * a1 + 1192 by omega]
                            have e_514 : M 164 (1188 + 85 * a1) = M 164 (85 * a1 + 1188) := by rw [show 1188 + 85 * a1 = 85 * a1 + 1188 by omega]
                            have e_515 : N_506 164 (1192 + 85 * a1) = (M 164 (85 * a1 + 1192)) + 1 := by rw [show 1192 + 85 * a1 = 85 * a1 + 1192 by omega, hM_N_506, mu_s]
                            have e_516 : N_506 164 (1194 + 85 * a1 + 4 * (M 164 (85 * a1 + 1192))) = N_323 164 (85 * a1 + 4 * (M 164 (85 * a1 + 1192)) + 1194) := by rw [show 1194 + 85 * a1 + 4 * (M 164 (85 * a1 + 1192)) = 85 * a1 + 4 * (M 164 (85 * a1 + 1192)) + 1194 by omega, hM_N_506, mu_i (by omega), hx_N_465 _ (by omega), Fr.e hG_N_454 kd_164 _ rfl, Fr.e hG_N_397 kd_164 _ rfl, hM_N_343, mu_i (by omega), hM_N_341, mu_i (by omega), hx_N_333 _ (by omega)]
                            have e_517 : N_506 164 (1195 + 85 * a1 + 4 * (M 164 (85 * a1 + 1192))) = N_333 164 (85 * a1 + 4 * (M 164 (85 * a1 + 1192)) + 1195) := by rw [show 1195 + 85 * a1 + 4 * (M 164 (85 * a1 + 1192)) = 85 * a1 + 4 * (M 164 (85 * a1 + 1192)) + 1195 by omega, hM_N_506, mu_i (by omega), hx_N_465 _ (by omega), Fr.e hG_N_454 kd_164 _ rfl, Fr.e hG_N_397 kd_164 _ rfl, hM_N_343, mu_i (by omega), hM_N_341, mu_i (by omega)]
                            exact kx_zret F hQ (by omega) ⟨hI_N_506, hF_N_506, (by omega), ⟨(LO.sta (LO.ne (LO.fr (LO.fr (LO.sta (LO.sta (LO.ne (LO.ne (LO.fr (LO.fr (LO.rf M) hG_N_12 rfl) hG_N_38 rfl) hx_N_323 (by omega)) hx_N_333 (by omega)) hM_N_341 (by omega)) hM_N_343 (by omega)) hG_N_397 rfl) hG_N_454 rfl) hx_N_465 (by omega)) hM_N_506 (by omega)), (fun _ => (R4.rule hR hI_M a1 (M 164 (85 * a1 + 1192)) (by omega) (by omega) (fun j hj h0 => by rw [hM_N_506, mu_i (by omega), hx_N_465 _ (by omega), Fr.e hG_N_454 kd_164 _ rfl, Fr.e hG_N_397 kd_164 _ rfl, hM_N_343, mu_i (by omega), hM_N_341, mu_i (by omega), hx_N_333 _ (by omega), hx_N_323 _ (by omega), Fr.e hG_N_38 kd_164 _ rfl, Fr.e hG_N_12 kd_164 _ rfl]) (by omega) (by omega) (by omega)))⟩⟩ dX12_aRule_319
                        · refine kx_if_ne 219 F 221 dX12_aRule_216 (by decide) rfl (by omega) (fun h_518 => (by exfalso; omega)) (fun h_518 => ?_)
                          refine kx_iconst 220 F dX12_aRule_219 rfl ?_
                          exact kx_zret F hQ (by omega) ⟨hI_N_465, hF_N_465, (by omega), ⟨(LO.ne (LO.fr (LO.fr (LO.sta (LO.sta (LO.ne (LO.ne (LO.fr (LO.fr (LO.rf M) hG_N_12 rfl) hG_N_38 rfl) hx_N_323 (by omega)) hx_N_333 (by omega)) hM_N_341 (by omega)) hM_N_343 (by omega)) hG_N_397 rfl) hG_N_454 rfl) hx_N_465 (by omega)), (fun h => absurd h (by omega))⟩⟩ dX12_aRule_220
                      · refine kx_if_eq 197 F 219 dX12_aRule_194 (by decide) rfl (by omega) (fun h_519 => ?_) (fun h_519 => (by exfalso; omega))
                        refine kx_iconst 220 F dX12_aRule_219 rfl ?_
                        exact kx_zret F hQ (by omega) ⟨hI_N_454, hF_N_454, (by omega), ⟨(LO.fr (LO.fr (LO.sta (LO.sta (LO.ne (LO.ne (LO.fr (LO.fr (LO.rf M) hG_N_12 rfl) hG_N_38 rfl) hx_N_323 (by omega)) hx_N_333 (by omega)) hM_N_341 (by omega)) hM_N_343 (by omega)) hG_N_397 rfl) hG_N_454 rfl), (fun h => absurd h (by omega))⟩⟩ dX12_aRule_220
                · refine kx_aload_n 159 F 0 dX12_aRule_158 rfl rfl rfl ?_
                  refine kx_ldcS 161 F 11 (by decide) rfl rfl dX12_aRule_159 rfl ?_
                  refine kx_bipush 163 F dX12_aRule_161 (by decide) rfl ?_
                  refine kx_Vi 166 (ci := 0) F (As := [vT G 11, vI 8]) (st := []) vd_X12_235 (c_X12_wantWord G l N_343 8 hI_N_343 (by omega)) kd_163 rfl rfl rfl ⟨by decide, by decide⟩ rfl rfl (Nat.le_of_ble_eq_true rfl) dX12_aRule_163 rfl ?_
                  intro r_520 N_521 q_522
                  obtain ⟨hI_N_521, hG_N_521, q_522c⟩ := q_522
                  have hF_N_521 : Fr f_c_X12_aRule M N_521 := Fr.c hF_N_343 hG_N_521 rfl
                  have e_523 : (N_343 163 14) = (N_333 163 14) := by rw [hM_N_343, mu_k kd_163 kd_164 rfl, hM_N_341, mu_k kd_163 kd_164 rfl]
                  have e_524 : (N_343 163 12) = (N_333 163 12) := by rw [hM_N_343, mu_k kd_163 kd_164 rfl, hM_N_341, mu_k kd_163 kd_164 rfl]
                  have h_525 := Inv.g hI_N_521 kd_163 rfl 14 (a := 0) (b := 900) rfl rfl
                  have h_526 := Inv.g hI_N_521 kd_163 rfl 12 (a := 0) (b := 4) rfl rfl
                  have e_527 : (N_343 163 14) = (N_333 163 14) := by rw [hM_N_343, mu_k kd_163 kd_164 rfl, hM_N_341, mu_k kd_163 kd_164 rfl]
                  have e_528 : (N_343 163 12) = (N_333 163 12) := by rw [hM_N_343, mu_k kd_163 kd_164 rfl, hM_N_341, mu_k kd_163 kd_164 rfl]
                  have h_529 := Inv.g hI_N_521 kd_163 rfl 14 (a := 0) (b := 900) rfl rfl
                  have h_530 := Inv.g hI_N_521 kd_163 rfl 12 (a := 0) (b := 4) rfl rfl
                  have h_531 := Inv.g hI_N_521 kd_163 rfl 18 (a := (-2147483648)) (b := 2147483647) rfl rfl
                  rcases q_522c with q_522c | q_522c
                  · refine kx_if_ne 169 F 171 dX12_aRule_166 (by decide) rfl (by omega) (fun h_532 => ?_) (fun h_532 => (by exfalso; omega))
                    refine kx_iload 173 F 6 dX12_aRule_171 rfl rfl ?_
                    refine kx_iconst 174 F dX12_aRule_173 rfl ?_
                    refine kx_icmp_ne 177 F 221 dX12_aRule_174 (by decide) rfl (by omega) (by decide) (fun h_533 => ?_) (fun h_533 => (by exfalso; omega))
                    refine kx_iload 223 F 6 dX12_aRule_221 rfl rfl ?_
                    refine kx_if_ne 226 F 250 dX12_aRule_223 (by decide) rfl (by omega) (fun h_534 => (by exfalso; omega)) (fun h_534 => ?_)
                    refine kx_aload_n 227 F 0 dX12_aRule_226 rfl rfl rfl ?_
                    refine kx_iload 229 F 4 dX12_aRule_227 rfl rfl ?_
                    refine kx_iconst 230 F dX12_aRule_229 rfl ?_
                    refine kx_iadd 231 F (v := 85 * a1 + 4 * (M 164 (85 * a1 + 1192)) + 1196) dX12_aRule_230 (by omega) rfl ?_
                    refine kx_iconst 232 F dX12_aRule_231 rfl ?_
                    refine kx_aload_n 233 F 0 dX12_aRule_232 rfl rfl rfl ?_
                    refine kx_getr 236 F fl_X12_7 kd_163 rfl rfl (j := 0) rfl dX12_aRule_233 (v := 164) (uq_164 (Inv.r hI_N_521 kd_163 rfl 0 rfl rfl)) rfl ?_
                    refine kx_iload_n 237 F 2 dX12_aRule_236 rfl rfl rfl ?_
                    refine kx_iconst 238 F dX12_aRule_237 rfl ?_
                    refine kx_iadd 239 F (v := 85 * a1 + 1189) dX12_aRule_238 (by omega) rfl ?_
                    refine kx_iald 240 F kd_164 rfl rfl (by omega) (by decide) dX12_aRule_239 (v := (M 164 (85 * a1 + 1189))) (by rw [Fr.e hG_N_521 kd_164 _ rfl, hM_N_343, mu_i (by omega), hM_N_341, mu_i (by omega), hx_N_333 _ (by omega), hx_N_323 _ (by omega), Fr.e hG_N_38 kd_164 _ rfl, Fr.e hG_N_12 kd_164 _ rfl]) rfl ?_
                    have ha_535 : atlo (85 * a1 + 1189) = 0 ∧ athi (85 * a1 + 1189) = 3 := at_a (85 * a1 + 1189) 4 a1 1 (by omega) (by omega) (by decide)
                    have h_536 := Inv.g hI_M kd_164 rfl (85 * a1 + 1189) (a := 0) (b := 3) ha_535.1 ha_535.2
                    refine kx_iconst 241 F dX12_aRule_240 rfl ?_
                    refine kx_isub 242 F (v := (M 164 (85 * a1 + 1189)) - 1) dX12_aRule_241 rfl rfl ?_
                    refine kx_Vi 245 (ci := 0) F (As := [vI (85 * a1 + 4 * (M 164 (85 * a1 + 1192)) + 1196), vI 0, vI ((M 164 (85 * a1 + 1189)) - 1)]) (st := []) vd_X12_231 (c_X12_number G l N_521 (85 * a1 + 4 * (M 164 (85 * a1 + 1192)) + 1196) 0 ((M 164 (85 * a1 + 1189)) - 1) hI_N_521 (by omega)) kd_163 rfl rfl rfl ⟨by decide, by decide⟩ rfl rfl (Nat.le_of_ble_eq_true rfl) dX12_aRule_242 rfl ?_
                    intro r_537 N_538 q_539
                    obtain ⟨hI_N_538, hG_N_538, q_539c, hx_N_538⟩ := q_539
                    have hF_N_538 : Fr f_c_X12_aRule M N_538 := Fr.c hF_N_521 hG_N_538 rfl
                    have h_540 := Inv.g hI_N_538 kd_163 rfl 14 (a := 0) (b := 900) rfl rfl
                    have h_541 := Inv.g hI_N_538 kd_163 rfl 12 (a := 0) (b := 4) rfl rfl
                    have h_542 := Inv.g hI_N_538 kd_163 rfl 14 (a := 0) (b := 900) rfl rfl
                    have h_543 := Inv.g hI_N_538 kd_163 rfl 12 (a := 0) (b := 4) rfl rfl
                    have h_544 := Inv.g hI_N_538 kd_163 rfl 18 (a := (-2147483648)) (b := 2147483647) rfl rfl
                    rcases q_539c with q_539c | q_539c
                    · refine kx_if_ne 248 F 250 dX12_aRule_245 (by decide) rfl (by omega) (fun h_545 => ?_) (fun h_545 => (by exfalso; omega))
                      refine kx_aload_n 251 F 0 dX12_aRule_250 rfl rfl rfl ?_
                      refine kx_bipush 253 F dX12_aRule_251 (by decide) rfl ?_
                      refine kx_Vi 256 (ci := 0) F (As := [vI 59]) (st := []) vd_X12_202 (c_X12_isSign G l N_538 59 hI_N_538 (by omega)) kd_163 rfl rfl rfl ⟨by decide, by decide⟩ rfl rfl (Nat.le_of_ble_eq_true rfl) dX12_aRule_253 rfl ?_
                      intro r_546 N_547 q_548
                      obtain ⟨rfl, q_548c⟩ := q_548
                      rcases q_548c with q_548c | q_548c
                      · refine kx_if_eq 259 F 306 dX12_aRule_256 (by decide) rfl (by omega) (fun h_549 => (by exfalso; omega)) (fun h_549 => ?_)
                        refine kx_aload_n 260 F 0 dX12_aRule_259 rfl rfl rfl ?_
                        refine kx_sipush 263 F dX12_aRule_260 (by decide) rfl ?_
                        refine kx_iload_n 264 F 1 dX12_aRule_263 rfl rfl rfl ?_
                        refine kx_iload_n 265 F 3 dX12_aRule_264 rfl rfl rfl ?_
                        refine kx_iload 267 F 5 dX12_aRule_265 rfl rfl ?_
                        refine kx_aload_n 268 F 0 dX12_aRule_267 rfl rfl rfl ?_
                        refine kx_getr 271 F fl_X12_7 kd_163 rfl rfl (j := 0) rfl dX12_aRule_268 (v := 164) (uq_164 (Inv.r hI_N_538 kd_163 rfl 0 rfl rfl)) rfl ?_
                        refine kx_iload 273 F 4 dX12_aRule_271 rfl rfl ?_
                        refine kx_iconst 274 F dX12_aRule_273 rfl ?_
                        refine kx_iadd 275 F (v := 85 * a1 + 4 * (M 164 (85 * a1 + 1192)) + 1194) dX12_aRule_274 (by omega) rfl ?_
                        refine kx_iald 276 F kd_164 rfl rfl (by omega) (by decide) dX12_aRule_275 (v := (N_323 164 (85 * a1 + 4 * (M 164 (85 * a1 + 1192)) + 1194))) (by rw [hx_N_538 _ (by omega), Fr.e hG_N_521 kd_164 _ rfl, hM_N_343, mu_i (by omega), hM_N_341, mu_i (by omega), hx_N_333 _ (by omega)]) rfl ?_
                        have h_550 := Inv.g hI_N_323 kd_164 rfl (85 * a1 + 4 * (M 164 (85 * a1 + 1192)) + 1194) (a := 0) (b := 2) ha_321.1 ha_321.2
                        refine kx_aload_n 277 F 0 dX12_aRule_276 rfl rfl rfl ?_
                        refine kx_getr 280 F fl_X12_7 kd_163 rfl rfl (j := 0) rfl dX12_aRule_277 (v := 164) (uq_164 (Inv.r hI_N_538 kd_163 rfl 0 rfl rfl)) rfl ?_
                        refine kx_iload 282 F 4 dX12_aRule_280 rfl rfl ?_
                        refine kx_iconst 283 F dX12_aRule_282 rfl ?_
                        refine kx_iadd 284 F (v := 85 * a1 + 4 * (M 164 (85 * a1 + 1192)) + 1195) dX12_aRule_283 (by omega) rfl ?_
                        refine kx_iald 285 F kd_164 rfl rfl (by omega) (by decide) dX12_aRule_284 (v := (N_333 164 (85 * a1 + 4 * (M 164 (85 * a1 + 1192)) + 1195))) (by rw [hx_N_538 _ (by omega), Fr.e hG_N_521 kd_164 _ rfl, hM_N_343, mu_i (by omega), hM_N_341, mu_i (by omega)]) rfl ?_
                        have h_551 := Inv.g hI_N_333 kd_164 rfl (85 * a1 + 4 * (M 164 (85 * a1 + 1192)) + 1195) (a := 0) (b := 2) ha_331.1 ha_331.2
                        refine kx_aload_n 286 F 0 dX12_aRule_285 rfl rfl rfl ?_
                        refine kx_getr 289 F fl_X12_7 kd_163 rfl rfl (j := 0) rfl dX12_aRule_286 (v := 164) (uq_164 (Inv.r hI_N_538 kd_163 rfl 0 rfl rfl)) rfl ?_
                        refine kx_iload 291 F 4 dX12_aRule_289 rfl rfl ?_
                        refine kx_iconst 292 F dX12_aRule_291 rfl ?_
                        refine kx_iadd 293 F (v := 85 * a1 + 4 * (M 164 (85 * a1 + 1192)) + 1196) dX12_aRule_292 (by omega) rfl ?_
                        refine kx_iald 294 F kd_164 rfl rfl (by omega) (by decide) dX12_aRule_293 (v := (N_538 164 (85 * a1 + 4 * (M 164 (85 * a1 + 1192)) + 1196))) rfl rfl ?_
                        have h_552 := Inv.g hI_N_538 kd_164 rfl (85 * a1 + 4 * (M 164 (85 * a1 + 1192)) + 1196) (a := (-1)) (b := 2) ha_344.1 ha_344.2
                        refine kx_Vi 297 (ci := 0) F (As := [vI 1088, vI a1, vI (M 164 (85 * a1 + 1192)), vI r_34, vI (N_323 164 (85 * a1 + 4 * (M 164 (85 * a1 + 1192)) + 1194)), vI (N_333 164 (85 * a1 + 4 * (M 164 (85 * a1 + 1192)) + 1195)), vI (N_538 164 (85 * a1 + 4 * (M 164 (85 * a1 + 1192)) + 1196))]) (st := []) vd_X12_253 (c_isRuleN G l N_538 1088 a1 (M 164 (85 * a1 + 1192)) r_34 (N_323 164 (85 * a1 + 4 * (M 164 (85 * a1 + 1192)) + 1194)) (N_333 164 (85 * a1 + 4 * (M 164 (85 * a1 + 1192)) + 1195)) (N_538 164 (85 * a1 + 4 * (M 164 (85 * a1 + 1192)) + 1196)) hI_N_538 (by omega)) kd_163 rfl rfl rfl ⟨by decide, by decide⟩ rfl rfl (Nat.le_of_ble_eq_true rfl) dX12_aRule_294 rfl ?_
                        intro r_553 N_554 q_555
                        obtain ⟨rfl, q_555c⟩ := q_555
                        refine kx_if_eq 300 F 306 dX12_aRule_297 (by decide) rfl (by omega) (fun h_556 => ?_) (fun h_556 => ?_)
                        · refine kx_aload_n 307 F 0 dX12_aRule_306 rfl rfl rfl ?_
                          refine kx_getr 310 F fl_X12_7 kd_163 rfl rfl (j := 0) rfl dX12_aRule_307 (v := 164) (uq_164 (Inv.r hI_N_538 kd_163 rfl 0 rfl rfl)) rfl ?_
                          refine kx_iload_n 311 F 2 dX12_aRule_310 rfl rfl rfl ?_
                          refine kx_iconst 312 F dX12_aRule_311 rfl ?_
                          refine kx_iadd 313 F (v := 85 * a1 + 1192) dX12_aRule_312 (by omega) rfl ?_
                          refine kx_dup2 314 F dX12_aRule_313 rfl rfl rfl ?_
                          refine kx_iald 315 F kd_164 rfl rfl (by omega) (by decide) dX12_aRule_314 (v := (M 164 (85 * a1 + 1192))) (by rw [hx_N_538 _ (by omega), Fr.e hG_N_521 kd_164 _ rfl, hM_N_343, mu_i (by omega), hM_N_341, mu_i (by omega), hx_N_333 _ (by omega), hx_N_323 _ (by omega), Fr.e hG_N_38 kd_164 _ rfl, Fr.e hG_N_12 kd_164 _ rfl]) rfl ?_
                          refine kx_iconst 316 F dX12_aRule_315 rfl ?_
                          refine kx_iadd 317 F (v := (M 164 (85 * a1 + 1192)) + 1) dX12_aRule_316 rfl rfl ?_
                          refine kx_iast 318 F kd_164 rfl rfl (by omega) (by decide) dX12_aRule_317 rfl ?_
                          intro N_557 hM_N_557
                          have hI_N_557 : Inv true N_557 := Inv.u hI_N_538 hM_N_557 kd_164 (a := 0) (b := 20) ha_6.1 ha_6.2 rfl (by omega)
                          have hF_N_557 : Fr f_c_X12_aRule M N_557 := Fr.u hF_N_538 hM_N_557 kd_164 rfl
                          refine kx_iconst 319 F dX12_aRule_318 rfl ?_
                          have e_558 : (N_557 163 14) = (N_538 163 14) := by rw [hM_N_557, mu_k kd_163 kd_164 rfl]
                          have e_559 : (N_557 163 12) = (N_538 163 12) := by rw [hM_N_557, mu_k kd_163 kd_164 rfl]
                          have e_560 : (N_557 163 14) = (N_538 163 14) := by rw [hM_N_557, mu_k kd_163 kd_164 rfl]
                          have e_561 : (N_557 163 12) = (N_538 163 12) := by rw [hM_N_557, mu_k kd_163 kd_164 rfl]
                          have e_562 : (N_557 163 18) = (N_538 163 18) := by rw [hM_N_557, mu_k kd_163 kd_164 rfl]
                          have h_563 := Inv.g hI_N_538 kd_163 rfl 18 (a := (-2147483648)) (b := 2147483647) rfl rfl
                          have e_564 : M 164 (1192 + 85 * a1) = M 164 (85 * a1 + 1192) := by rw [show 1192 + 85 * a1 = 85 * a1 + 1192 by omega]
                          have e_565 : M 164 (1188 + 85 * a1) = M 164 (85 * a1 + 1188) := by rw [show 1188 + 85 * a1 = 85 * a1 + 1188 by omega]
                          have e_566 : N_557 164 (1192 + 85 * a1) = (M 164 (85 * a1 + 1192)) + 1 := by rw [show 1192 + 85 * a1 = 85 * a1 + 1192 by omega, hM_N_557, mu_s]
                          have e_567 : N_557 164 (1194 + 85 * a1 + 4 * (M 164 (85 * a1 + 1192))) = N_323 164 (85 * a1 + 4 * (M 164 (85 * a1 + 1192)) + 1194) := by rw [show 1194 + 85 * a1 + 4 * (M 164 (85 * a1 + 1192)) = 85 * a1 + 4 * (M 164 (85 * a1 + 1192)) + 1194 by omega, hM_N_557, mu_i (by omega), hx_N_538 _ (by omega), Fr.e hG_N_521 kd_164 _ rfl, hM_N_343, mu_i (by omega), hM_N_341, mu_i (by omega), hx_N_333 _ (by omega)]
                          have e_568 : N_557 164 (1195 + 85 * a1 + 4 * (M 164 (85 * a1 + 1192))) = N_333 164 (85 * a1 + 4 * (M 164 (85 * a1 + 1192)) + 1195) := by rw [show 1195 + 85 * a1 + 4 * (M 164 (85 * a1 + 1192)) = 85 * a1 + 4 * (M 164 (85 * a1 + 1192)) + 1195 by omega, hM_N_557, mu_i (by omega), hx_N_538 _ (by omega), Fr.e hG_N_521 kd_164 _ rfl, hM_N_343, mu_i (by omega), hM_N_341, mu_i (by omega)]
                          exact kx_zret F hQ (by omega) ⟨hI_N_557, hF_N_557, (by omega), ⟨(LO.sta (LO.ne (LO.fr (LO.sta (LO.sta (LO.ne (LO.ne (LO.fr (LO.fr (LO.rf M) hG_N_12 rfl) hG_N_38 rfl) hx_N_323 (by omega)) hx_N_333 (by omega)) hM_N_341 (by omega)) hM_N_343 (by omega)) hG_N_521 rfl) hx_N_538 (by omega)) hM_N_557 (by omega)), (fun _ => (R4.rule hR hI_M a1 (M 164 (85 * a1 + 1192)) (by omega) (by omega) (fun j hj h0 => by rw [hM_N_557, mu_i (by omega), hx_N_538 _ (by omega), Fr.e hG_N_521 kd_164 _ rfl, hM_N_343, mu_i (by omega), hM_N_341, mu_i (by omega), hx_N_333 _ (by omega), hx_N_323 _ (by omega), Fr.e hG_N_38 kd_164 _ rfl, Fr.e hG_N_12 kd_164 _ rfl]) (by omega) (by omega) (by omega)))⟩⟩ dX12_aRule_319
                        · refine kx_aload_n 301 F 0 dX12_aRule_300 rfl rfl rfl ?_
                          refine kx_iconst 302 F dX12_aRule_301 rfl ?_
                          refine kx_Vi 305 (ci := 0) F (As := [vI 5]) (st := []) vd_X12_205 (c_X12_fails G l N_538 5 hI_N_538 (by omega)) kd_163 rfl rfl rfl ⟨by decide, by decide⟩ rfl rfl (Nat.le_of_ble_eq_true rfl) dX12_aRule_302 rfl ?_
                          intro r_569 N_570 q_571
                          obtain ⟨hI_N_570, hG_N_570, q_571c⟩ := q_571
                          have hF_N_570 : Fr f_c_X12_aRule M N_570 := Fr.c hF_N_538 hG_N_570 rfl
                          have h_572 := Inv.g hI_N_570 kd_163 rfl 18 (a := (-2147483648)) (b := 2147483647) rfl rfl
                          have e_573 : (N_570 163 14) = (N_538 163 14) := by rw [Fr.e hG_N_570 kd_163 _ rfl]
                          have e_574 : (N_570 163 12) = (N_538 163 12) := by rw [Fr.e hG_N_570 kd_163 _ rfl]
                          have e_575 : (N_570 163 14) = (N_538 163 14) := by rw [Fr.e hG_N_570 kd_163 _ rfl]
                          have e_576 : (N_570 163 12) = (N_538 163 12) := by rw [Fr.e hG_N_570 kd_163 _ rfl]
                          exact kx_zret F hQ (by omega) ⟨hI_N_570, hF_N_570, (by omega), ⟨(LO.fr (LO.ne (LO.fr (LO.sta (LO.sta (LO.ne (LO.ne (LO.fr (LO.fr (LO.rf M) hG_N_12 rfl) hG_N_38 rfl) hx_N_323 (by omega)) hx_N_333 (by omega)) hM_N_341 (by omega)) hM_N_343 (by omega)) hG_N_521 rfl) hx_N_538 (by omega)) hG_N_570 rfl), (fun h => absurd h (by omega))⟩⟩ dX12_aRule_305
                      · refine kx_if_eq 259 F 306 dX12_aRule_256 (by decide) rfl (by omega) (fun h_577 => ?_) (fun h_577 => (by exfalso; omega))
                        refine kx_aload_n 307 F 0 dX12_aRule_306 rfl rfl rfl ?_
                        refine kx_getr 310 F fl_X12_7 kd_163 rfl rfl (j := 0) rfl dX12_aRule_307 (v := 164) (uq_164 (Inv.r hI_N_538 kd_163 rfl 0 rfl rfl)) rfl ?_
                        refine kx_iload_n 311 F 2 dX12_aRule_310 rfl rfl rfl ?_
                        refine kx_iconst 312 F dX12_aRule_311 rfl ?_
                        refine kx_iadd 313 F (v := 85 * a1 + 1192) dX12_aRule_312 (by omega) rfl ?_
                        refine kx_dup2 314 F dX12_aRule_313 rfl rfl rfl ?_
                        refine kx_iald 315 F kd_164 rfl rfl (by omega) (by decide) dX12_aRule_314 (v := (M 164 (85 * a1 + 1192))) (by rw [hx_N_538 _ (by omega), Fr.e hG_N_521 kd_164 _ rfl, hM_N_343, mu_i (by omega), hM_N_341, mu_i (by omega), hx_N_333 _ (by omega), hx_N_323 _ (by omega), Fr.e hG_N_38 kd_164 _ rfl, Fr.e hG_N_12 kd_164 _ rfl]) rfl ?_
                        refine kx_iconst 316 F dX12_aRule_315 rfl ?_
                        refine kx_iadd 317 F (v := (M 164 (85 * a1 + 1192)) + 1) dX12_aRule_316 rfl rfl ?_
                        refine kx_iast 318 F kd_164 rfl rfl (by omega) (by decide) dX12_aRule_317 rfl ?_
                        intro N_578 hM_N_578
                        have hI_N_578 : Inv true N_578 := Inv.u hI_N_538 hM_N_578 kd_164 (a := 0) (b := 20) ha_6.1 ha_6.2 rfl (by omega)
                        have hF_N_578 : Fr f_c_X12_aRule M N_578 := Fr.u hF_N_538 hM_N_578 kd_164 rfl
                        refine kx_iconst 319 F dX12_aRule_318 rfl ?_
                        have e_579 : (N_578 163 14) = (N_538 163 14) := by rw [hM_N_578, mu_k kd_163 kd_164 rfl]
                        have e_580 : (N_578 163 12) = (N_538 163 12) := by rw [hM_N_578, mu_k kd_163 kd_164 rfl]
                        have e_581 : (N_578 163 14) = (N_538 163 14) := by rw [hM_N_578, mu_k kd_163 kd_164 rfl]
                        have e_582 : (N_578 163 12) = (N_538 163 12) := by rw [hM_N_578, mu_k kd_163 kd_164 rfl]
                        have e_583 : (N_578 163 18) = (N_538 163 18) := by rw [hM_N_578, mu_k kd_163 kd_164 rfl]
                        have h_584 := Inv.g hI_N_538 kd_163 rfl 18 (a := (-2147483648)) (b := 2147483647) rfl rfl
                        have e_585 : M 164 (1192 + 85 * a1) = M 164 (85 * a1 + 1192) := by rw [show 1192 + 85 * a1 = 85 * a1 + 1192 by omega]
                        have e_586 : M 164 (1188 + 85 * a1) = M 164 (85 * a1 + 1188) := by rw [show 1188 + 85 * a1 = 85 * a1 + 1188 by omega]
                        have e_587 : N_578 164 (1192 + 85 * a1) = (M 164 (85 * a1 + 1192)) + 1 := by rw [show 1192 + 85 * a1 = 85 * a1 + 1192 by omega, hM_N_578, mu_s]
                        have e_588 : N_578 164 (1194 + 85 * a1 + 4 * (M 164 (85 * a1 + 1192))) = N_323 164 (85 * a1 + 4 * (M 164 (85 * a1 + 1192)) + 1194) := by rw [show 1194 + 85 * a1 + 4 * (M 164 (85 * a1 + 1192)) = 85 * a1 + 4 * (M 164 (85 * a1 + 1192)) + 1194 by omega, hM_N_578, mu_i (by omega), hx_N_538 _ (by omega), Fr.e hG_N_521 kd_164 _ rfl, hM_N_343, mu_i (by omega), hM_N_341, mu_i (by omega), hx_N_333 _ (by omega)]
                        have e_589 : N_578 164 (1195 + 85 * a1 + 4 * (M 164 (85 * a1 + 1192))) = N_333 164 (85 * a1 + 4 * (M 164 (85 * a1 + 1192)) + 1195) := by rw [show 1195 + 85 * a1 + 4 * (M 164 (85 * a1 + 1192)) = 85 * a1 + 4 * (M 164 (85 * a1 + 1192)) + 1195 by omega, hM_N_578, mu_i (by omega), hx_N_538 _ (by omega), Fr.e hG_N_521 kd_164 _ rfl, hM_N_343, mu_i (by omega), hM_N_341, mu_i (by omega)]
                        exact kx_zret F hQ (by omega) ⟨hI_N_578, hF_N_578, (by omega), ⟨(LO.sta (LO.ne (LO.fr (LO.sta (LO.sta (LO.ne (LO.ne (LO.fr (LO.fr (LO.rf M) hG_N_12 rfl) hG_N_38 rfl) hx_N_323 (by omega)) hx_N_333 (by omega)) hM_N_341 (by omega)) hM_N_343 (by omega)) hG_N_521 rfl) hx_N_538 (by omega)) hM_N_578 (by omega)), (fun _ => (R4.rule hR hI_M a1 (M 164 (85 * a1 + 1192)) (by omega) (by omega) (fun j hj h0 => by rw [hM_N_578, mu_i (by omega), hx_N_538 _ (by omega), Fr.e hG_N_521 kd_164 _ rfl, hM_N_343, mu_i (by omega), hM_N_341, mu_i (by omega), hx_N_333 _ (by omega), hx_N_323 _ (by omega), Fr.e hG_N_38 kd_164 _ rfl, Fr.e hG_N_12 kd_164 _ rfl]) (by omega) (by omega) (by omega)))⟩⟩ dX12_aRule_319
                    · refine kx_if_ne 248 F 250 dX12_aRule_245 (by decide) rfl (by omega) (fun h_590 => (by exfalso; omega)) (fun h_590 => ?_)
                      refine kx_iconst 249 F dX12_aRule_248 rfl ?_
                      exact kx_zret F hQ (by omega) ⟨hI_N_538, hF_N_538, (by omega), ⟨(LO.ne (LO.fr (LO.sta (LO.sta (LO.ne (LO.ne (LO.fr (LO.fr (LO.rf M) hG_N_12 rfl) hG_N_38 rfl) hx_N_323 (by omega)) hx_N_333 (by omega)) hM_N_341 (by omega)) hM_N_343 (by omega)) hG_N_521 rfl) hx_N_538 (by omega)), (fun h => absurd h (by omega))⟩⟩ dX12_aRule_249
                  · refine kx_if_ne 169 F 171 dX12_aRule_166 (by decide) rfl (by omega) (fun h_591 => (by exfalso; omega)) (fun h_591 => ?_)
                    refine kx_iconst 170 F dX12_aRule_169 rfl ?_
                    exact kx_zret F hQ (by omega) ⟨hI_N_521, hF_N_521, (by omega), ⟨(LO.fr (LO.sta (LO.sta (LO.ne (LO.ne (LO.fr (LO.fr (LO.rf M) hG_N_12 rfl) hG_N_38 rfl) hx_N_323 (by omega)) hx_N_333 (by omega)) hM_N_341 (by omega)) hM_N_343 (by omega)) hG_N_521 rfl), (fun h => absurd h (by omega))⟩⟩ dX12_aRule_170
              · refine kx_if_ne 121 F 123 dX12_aRule_118 (by decide) rfl (by omega) (fun h_592 => (by exfalso; omega)) (fun h_592 => ?_)
                refine kx_iconst 122 F dX12_aRule_121 rfl ?_
                exact kx_zret F hQ (by omega) ⟨hI_N_333, hF_N_333, (by omega), ⟨(LO.ne (LO.ne (LO.fr (LO.fr (LO.rf M) hG_N_12 rfl) hG_N_38 rfl) hx_N_323 (by omega)) hx_N_333 (by omega)), (fun h => absurd h (by omega))⟩⟩ dX12_aRule_122
            · refine kx_if_eq 101 F 121 dX12_aRule_98 (by decide) rfl (by omega) (fun h_593 => ?_) (fun h_593 => (by exfalso; omega))
              refine kx_iconst 122 F dX12_aRule_121 rfl ?_
              exact kx_zret F hQ (by omega) ⟨hI_N_323, hF_N_323, (by omega), ⟨(LO.ne (LO.fr (LO.fr (LO.rf M) hG_N_12 rfl) hG_N_38 rfl) hx_N_323 (by omega)), (fun h => absurd h (by omega))⟩⟩ dX12_aRule_122
        · refine kx_aload_n 72 F 0 dX12_aRule_71 rfl rfl rfl ?_
          refine kx_iconst 73 F dX12_aRule_72 rfl ?_
          refine kx_Vi 76 (ci := 0) F (As := [vI 3]) (st := []) vd_X12_205 (c_X12_fails G l N_12 3 hI_N_12 (by omega)) kd_163 rfl rfl rfl ⟨by decide, by decide⟩ rfl rfl (Nat.le_of_ble_eq_true rfl) dX12_aRule_73 rfl ?_
          intro r_594 N_595 q_596
          obtain ⟨hI_N_595, hG_N_595, q_596c⟩ := q_596
          have hF_N_595 : Fr f_c_X12_aRule M N_595 := Fr.c hF_N_12 hG_N_595 rfl
          have h_597 := Inv.g hI_N_595 kd_163 rfl 18 (a := (-2147483648)) (b := 2147483647) rfl rfl
          have e_598 : (N_595 163 14) = (N_12 163 14) := by rw [Fr.e hG_N_595 kd_163 _ rfl]
          have e_599 : (N_595 163 12) = (N_12 163 12) := by rw [Fr.e hG_N_595 kd_163 _ rfl]
          have e_600 : (N_595 163 14) = (N_12 163 14) := by rw [Fr.e hG_N_595 kd_163 _ rfl]
          have e_601 : (N_595 163 12) = (N_12 163 12) := by rw [Fr.e hG_N_595 kd_163 _ rfl]
          exact kx_zret F hQ (by omega) ⟨hI_N_595, hF_N_595, (by omega), ⟨(LO.fr (LO.fr (LO.rf M) hG_N_12 rfl) hG_N_595 rfl), (fun h => absurd h (by omega))⟩⟩ dX12_aRule_76
      · refine kx_if_ne 53 F 59 dX12_aRule_50 (by decide) rfl (by omega) (fun h_602 => (by exfalso; omega)) (fun h_602 => ?_)
        refine kx_aload_n 54 F 0 dX12_aRule_53 rfl rfl rfl ?_
        refine kx_iconst 55 F dX12_aRule_54 rfl ?_
        refine kx_Vi 58 (ci := 0) F (As := [vI 2]) (st := []) vd_X12_205 (c_X12_fails G l N_12 2 hI_N_12 (by omega)) kd_163 rfl rfl rfl ⟨by decide, by decide⟩ rfl rfl (Nat.le_of_ble_eq_true rfl) dX12_aRule_55 rfl ?_
        intro r_603 N_604 q_605
        obtain ⟨hI_N_604, hG_N_604, q_605c⟩ := q_605
        have hF_N_604 : Fr f_c_X12_aRule M N_604 := Fr.c hF_N_12 hG_N_604 rfl
        have h_606 := Inv.g hI_N_604 kd_163 rfl 18 (a := (-2147483648)) (b := 2147483647) rfl rfl
        have e_607 : (N_604 163 14) = (N_12 163 14) := by rw [Fr.e hG_N_604 kd_163 _ rfl]
        have e_608 : (N_604 163 12) = (N_12 163 12) := by rw [Fr.e hG_N_604 kd_163 _ rfl]
        have e_609 : (N_604 163 14) = (N_12 163 14) := by rw [Fr.e hG_N_604 kd_163 _ rfl]
        have e_610 : (N_604 163 12) = (N_12 163 12) := by rw [Fr.e hG_N_604 kd_163 _ rfl]
        exact kx_zret F hQ (by omega) ⟨hI_N_604, hF_N_604, (by omega), ⟨(LO.fr (LO.fr (LO.rf M) hG_N_12 rfl) hG_N_604 rfl), (fun h => absurd h (by omega))⟩⟩ dX12_aRule_58
  · refine kx_aload_n 24 F 0 dX12_aRule_23 rfl rfl rfl ?_
    refine kx_bipush 26 F dX12_aRule_24 (by decide) rfl ?_
    refine kx_Vi 29 (ci := 0) F (As := [vI 6]) (st := []) vd_X12_205 (c_X12_fails G l M 6 hI_M (by omega)) kd_163 rfl rfl rfl ⟨by decide, by decide⟩ rfl rfl (Nat.le_of_ble_eq_true rfl) dX12_aRule_26 rfl ?_
    intro r_611 N_612 q_613
    obtain ⟨hI_N_612, hG_N_612, q_613c⟩ := q_613
    have hF_N_612 : Fr f_c_X12_aRule M N_612 := Fr.c hF_M hG_N_612 rfl
    have h_614 := Inv.g hI_N_612 kd_163 rfl 18 (a := (-2147483648)) (b := 2147483647) rfl rfl
    have e_615 : (N_612 163 14) = (M 163 14) := by rw [Fr.e hG_N_612 kd_163 _ rfl]
    have e_616 : (N_612 163 12) = (M 163 12) := by rw [Fr.e hG_N_612 kd_163 _ rfl]
    have e_617 : (N_612 163 14) = (M 163 14) := by rw [Fr.e hG_N_612 kd_163 _ rfl]
    have e_618 : (N_612 163 12) = (M 163 12) := by rw [Fr.e hG_N_612 kd_163 _ rfl]
    exact kx_zret F hQ (by omega) ⟨hI_N_612, hF_N_612, (by omega), ⟨(LO.fr (LO.rf M) hG_N_612 rfl), (fun h => absurd h (by omega))⟩⟩ dX12_aRule_29
theorem dX12_checkerPart_0 : decode cX12_checkerPart 0 = .ok (.aload_n 0, 1) := by decide +kernel
theorem dX12_checkerPart_1 : decode cX12_checkerPart 1 = .ok (.ldc 219, 2) := by decide +kernel
theorem dX12_checkerPart_3 : decode cX12_checkerPart 3 = .ok (.invokevirtual 208, 3) := by decide +kernel
theorem dX12_checkerPart_6 : decode cX12_checkerPart 6 = .ok (.istore_n 1, 1) := by decide +kernel
theorem dX12_checkerPart_7 : decode cX12_checkerPart 7 = .ok (.aload_n 0, 1) := by decide +kernel
theorem dX12_checkerPart_8 : decode cX12_checkerPart 8 = .ok (.getfield 7, 3) := by decide +kernel
theorem dX12_checkerPart_11 : decode cX12_checkerPart 11 = .ok (.sipush 1091, 3) := by decide +kernel
theorem dX12_checkerPart_14 : decode cX12_checkerPart 14 = .ok (.iaload, 1) := by decide +kernel
theorem dX12_checkerPart_15 : decode cX12_checkerPart 15 = .ok (.iconst 1, 1) := by decide +kernel
theorem dX12_checkerPart_16 : decode cX12_checkerPart 16 = .ok (.isub, 1) := by decide +kernel
theorem dX12_checkerPart_17 : decode cX12_checkerPart 17 = .ok (.istore_n 2, 1) := by decide +kernel
theorem dX12_checkerPart_18 : decode cX12_checkerPart 18 = .ok (.iload_n 1, 1) := by decide +kernel
theorem dX12_checkerPart_19 : decode cX12_checkerPart 19 = .ok (.ifCond .lt 19, 3) := by decide +kernel
theorem dX12_checkerPart_22 : decode cX12_checkerPart 22 = .ok (.iload_n 1, 1) := by decide +kernel
theorem dX12_checkerPart_23 : decode cX12_checkerPart 23 = .ok (.bipush 6, 2) := by decide +kernel
theorem dX12_checkerPart_25 : decode cX12_checkerPart 25 = .ok (.if_icmp .gt 13, 3) := by decide +kernel
theorem dX12_checkerPart_28 : decode cX12_checkerPart 28 = .ok (.iload_n 1, 1) := by decide +kernel
theorem dX12_checkerPart_29 : decode cX12_checkerPart 29 = .ok (.iconst 3, 1) := by decide +kernel
theorem dX12_checkerPart_30 : decode cX12_checkerPart 30 = .ok (.if_icmp .le 14, 3) := by decide +kernel
theorem dX12_checkerPart_33 : decode cX12_checkerPart 33 = .ok (.iload_n 2, 1) := by decide +kernel
theorem dX12_checkerPart_34 : decode cX12_checkerPart 34 = .ok (.iconst (-1), 1) := by decide +kernel
theorem dX12_checkerPart_35 : decode cX12_checkerPart 35 = .ok (.if_icmp .ne 9, 3) := by decide +kernel
theorem dX12_checkerPart_38 : decode cX12_checkerPart 38 = .ok (.aload_n 0, 1) := by decide +kernel
theorem dX12_checkerPart_39 : decode cX12_checkerPart 39 = .ok (.iconst 2, 1) := by decide +kernel
theorem dX12_checkerPart_40 : decode cX12_checkerPart 40 = .ok (.invokevirtual 205, 3) := by decide +kernel
theorem dX12_checkerPart_43 : decode cX12_checkerPart 43 = .ok (.ireturn, 1) := by decide +kernel
theorem dX12_checkerPart_44 : decode cX12_checkerPart 44 = .ok (.iload_n 1, 1) := by decide +kernel
theorem dX12_checkerPart_45 : decode cX12_checkerPart 45 = .ok (.tableswitch 152 3 6 #[31, 53, 91, 129], 31) := by decide +kernel
theorem dX12_checkerPart_76 : decode cX12_checkerPart 76 = .ok (.aload_n 0, 1) := by decide +kernel
theorem dX12_checkerPart_77 : decode cX12_checkerPart 77 = .ok (.invokevirtual 257, 3) := by decide +kernel
theorem dX12_checkerPart_80 : decode cX12_checkerPart 80 = .ok (.ifCond .eq 16, 3) := by decide +kernel
theorem dX12_checkerPart_83 : decode cX12_checkerPart 83 = .ok (.aload_n 0, 1) := by decide +kernel
theorem dX12_checkerPart_84 : decode cX12_checkerPart 84 = .ok (.bipush 59, 2) := by decide +kernel
theorem dX12_checkerPart_86 : decode cX12_checkerPart 86 = .ok (.invokevirtual 261, 3) := by decide +kernel
theorem dX12_checkerPart_89 : decode cX12_checkerPart 89 = .ok (.ifCond .eq 7, 3) := by decide +kernel
theorem dX12_checkerPart_92 : decode cX12_checkerPart 92 = .ok (.iconst 1, 1) := by decide +kernel
theorem dX12_checkerPart_93 : decode cX12_checkerPart 93 = .ok (.goto 4, 3) := by decide +kernel
theorem dX12_checkerPart_96 : decode cX12_checkerPart 96 = .ok (.iconst 0, 1) := by decide +kernel
theorem dX12_checkerPart_97 : decode cX12_checkerPart 97 = .ok (.ireturn, 1) := by decide +kernel
theorem dX12_checkerPart_98 : decode cX12_checkerPart 98 = .ok (.aload_n 0, 1) := by decide +kernel
theorem dX12_checkerPart_99 : decode cX12_checkerPart 99 = .ok (.sipush 1088, 3) := by decide +kernel
theorem dX12_checkerPart_102 : decode cX12_checkerPart 102 = .ok (.iload_n 2, 1) := by decide +kernel
theorem dX12_checkerPart_103 : decode cX12_checkerPart 103 = .ok (.invokestatic 216, 3) := by decide +kernel
theorem dX12_checkerPart_106 : decode cX12_checkerPart 106 = .ok (.sipush 1088, 3) := by decide +kernel
theorem dX12_checkerPart_109 : decode cX12_checkerPart 109 = .ok (.iload_n 2, 1) := by decide +kernel
theorem dX12_checkerPart_110 : decode cX12_checkerPart 110 = .ok (.invokestatic 216, 3) := by decide +kernel
theorem dX12_checkerPart_113 : decode cX12_checkerPart 113 = .ok (.iconst 2, 1) := by decide +kernel
theorem dX12_checkerPart_114 : decode cX12_checkerPart 114 = .ok (.iadd, 1) := by decide +kernel
theorem dX12_checkerPart_115 : decode cX12_checkerPart 115 = .ok (.invokevirtual 264, 3) := by decide +kernel
theorem dX12_checkerPart_118 : decode cX12_checkerPart 118 = .ok (.ifCond .eq 16, 3) := by decide +kernel
theorem dX12_checkerPart_121 : decode cX12_checkerPart 121 = .ok (.aload_n 0, 1) := by decide +kernel
theorem dX12_checkerPart_122 : decode cX12_checkerPart 122 = .ok (.bipush 59, 2) := by decide +kernel
theorem dX12_checkerPart_124 : decode cX12_checkerPart 124 = .ok (.invokevirtual 261, 3) := by decide +kernel
theorem dX12_checkerPart_127 : decode cX12_checkerPart 127 = .ok (.ifCond .eq 7, 3) := by decide +kernel
theorem dX12_checkerPart_130 : decode cX12_checkerPart 130 = .ok (.iconst 1, 1) := by decide +kernel
theorem dX12_checkerPart_131 : decode cX12_checkerPart 131 = .ok (.goto 4, 3) := by decide +kernel
theorem dX12_checkerPart_134 : decode cX12_checkerPart 134 = .ok (.iconst 0, 1) := by decide +kernel
theorem dX12_checkerPart_135 : decode cX12_checkerPart 135 = .ok (.ireturn, 1) := by decide +kernel
theorem dX12_checkerPart_136 : decode cX12_checkerPart 136 = .ok (.aload_n 0, 1) := by decide +kernel
theorem dX12_checkerPart_137 : decode cX12_checkerPart 137 = .ok (.sipush 1088, 3) := by decide +kernel
theorem dX12_checkerPart_140 : decode cX12_checkerPart 140 = .ok (.iload_n 2, 1) := by decide +kernel
theorem dX12_checkerPart_141 : decode cX12_checkerPart 141 = .ok (.invokestatic 216, 3) := by decide +kernel
theorem dX12_checkerPart_144 : decode cX12_checkerPart 144 = .ok (.sipush 1088, 3) := by decide +kernel
theorem dX12_checkerPart_147 : decode cX12_checkerPart 147 = .ok (.iload_n 2, 1) := by decide +kernel
theorem dX12_checkerPart_148 : decode cX12_checkerPart 148 = .ok (.invokestatic 216, 3) := by decide +kernel
theorem dX12_checkerPart_151 : decode cX12_checkerPart 151 = .ok (.iconst 3, 1) := by decide +kernel
theorem dX12_checkerPart_152 : decode cX12_checkerPart 152 = .ok (.iadd, 1) := by decide +kernel
theorem dX12_checkerPart_153 : decode cX12_checkerPart 153 = .ok (.invokevirtual 264, 3) := by decide +kernel
theorem dX12_checkerPart_156 : decode cX12_checkerPart 156 = .ok (.ifCond .eq 16, 3) := by decide +kernel
theorem dX12_checkerPart_159 : decode cX12_checkerPart 159 = .ok (.aload_n 0, 1) := by decide +kernel
theorem dX12_checkerPart_160 : decode cX12_checkerPart 160 = .ok (.bipush 59, 2) := by decide +kernel
theorem dX12_checkerPart_162 : decode cX12_checkerPart 162 = .ok (.invokevirtual 261, 3) := by decide +kernel
theorem dX12_checkerPart_165 : decode cX12_checkerPart 165 = .ok (.ifCond .eq 7, 3) := by decide +kernel
theorem dX12_checkerPart_168 : decode cX12_checkerPart 168 = .ok (.iconst 1, 1) := by decide +kernel
theorem dX12_checkerPart_169 : decode cX12_checkerPart 169 = .ok (.goto 4, 3) := by decide +kernel
theorem dX12_checkerPart_172 : decode cX12_checkerPart 172 = .ok (.iconst 0, 1) := by decide +kernel
theorem dX12_checkerPart_173 : decode cX12_checkerPart 173 = .ok (.ireturn, 1) := by decide +kernel
theorem dX12_checkerPart_174 : decode cX12_checkerPart 174 = .ok (.aload_n 0, 1) := by decide +kernel
theorem dX12_checkerPart_175 : decode cX12_checkerPart 175 = .ok (.iload_n 2, 1) := by decide +kernel
theorem dX12_checkerPart_176 : decode cX12_checkerPart 176 = .ok (.invokevirtual 267, 3) := by decide +kernel
theorem dX12_checkerPart_179 : decode cX12_checkerPart 179 = .ok (.ifCond .eq 16, 3) := by decide +kernel
theorem dX12_checkerPart_182 : decode cX12_checkerPart 182 = .ok (.aload_n 0, 1) := by decide +kernel
theorem dX12_checkerPart_183 : decode cX12_checkerPart 183 = .ok (.bipush 59, 2) := by decide +kernel
theorem dX12_checkerPart_185 : decode cX12_checkerPart 185 = .ok (.invokevirtual 261, 3) := by decide +kernel
theorem dX12_checkerPart_188 : decode cX12_checkerPart 188 = .ok (.ifCond .eq 7, 3) := by decide +kernel
theorem dX12_checkerPart_191 : decode cX12_checkerPart 191 = .ok (.iconst 1, 1) := by decide +kernel
theorem dX12_checkerPart_192 : decode cX12_checkerPart 192 = .ok (.goto 4, 3) := by decide +kernel
theorem dX12_checkerPart_195 : decode cX12_checkerPart 195 = .ok (.iconst 0, 1) := by decide +kernel
theorem dX12_checkerPart_196 : decode cX12_checkerPart 196 = .ok (.ireturn, 1) := by decide +kernel
theorem dX12_checkerPart_197 : decode cX12_checkerPart 197 = .ok (.aload_n 0, 1) := by decide +kernel
theorem dX12_checkerPart_198 : decode cX12_checkerPart 198 = .ok (.iload_n 1, 1) := by decide +kernel
theorem dX12_checkerPart_199 : decode cX12_checkerPart 199 = .ok (.invokevirtual 270, 3) := by decide +kernel
theorem dX12_checkerPart_202 : decode cX12_checkerPart 202 = .ok (.ifCond .eq 16, 3) := by decide +kernel
theorem dX12_checkerPart_205 : decode cX12_checkerPart 205 = .ok (.aload_n 0, 1) := by decide +kernel
theorem dX12_checkerPart_206 : decode cX12_checkerPart 206 = .ok (.bipush 59, 2) := by decide +kernel
theorem dX12_checkerPart_208 : decode cX12_checkerPart 208 = .ok (.invokevirtual 261, 3) := by decide +kernel
theorem dX12_checkerPart_211 : decode cX12_checkerPart 211 = .ok (.ifCond .eq 7, 3) := by decide +kernel
theorem dX12_checkerPart_214 : decode cX12_checkerPart 214 = .ok (.iconst 1, 1) := by decide +kernel
theorem dX12_checkerPart_215 : decode cX12_checkerPart 215 = .ok (.goto 4, 3) := by decide +kernel
theorem dX12_checkerPart_218 : decode cX12_checkerPart 218 = .ok (.iconst 0, 1) := by decide +kernel
theorem dX12_checkerPart_219 : decode cX12_checkerPart 219 = .ok (.ireturn, 1) := by decide +kernel
abbrev f_c_X12_checkerPart : List (Nat × Int) := [(64, 12), (64, 13), (64, 14), (64, 15), (64, 17), (64, 18), (65, -1), (66, -1)]
set_option maxHeartbeats 4000000 in
set_option maxRecDepth 100000 in
theorem c_X12_checkerPart (G : KG) (l : Launch) (M : Mem) (hI_M : Inv true M) (hR : R4 M) : KC true G l yX12_checkerPart cX12_checkerPart 3 (some .boolean) (7, 159) [vR G 163] M (fun A => kQi true G A (fun (r : Int) (N : Mem) => Inv true N ∧ Fr f_c_X12_checkerPart M N ∧ ((r = 1 ∧ 5 * (N 163 14) - (N 163 12) ≥ 5 * (M 163 14) - (M 163 12) + 1) ∨ (r = 0 ∧ 5 * (N 163 14) - (N 163 12) ≥ 5 * (M 163 14) - (M 163 12) ∧ (N 163 18) ≠ 0)) ∧ (LO N M ∧ (r = 1 → R4 N)))) := by
  refine kx_met (lo := [some (vR G 163), none, none]) (by decide) (Nat.le_of_ble_eq_true rfl) rfl ?_
  intro X F hQ
  have hF_M : Fr f_c_X12_checkerPart M M := Fr.rf _ _
  have h_1 := Inv.g hI_M kd_163 rfl 14 (a := 0) (b := 900) rfl rfl
  have h_2 := Inv.g hI_M kd_163 rfl 12 (a := 0) (b := 4) rfl rfl
  refine kx_aload_n 1 F 0 dX12_checkerPart_0 rfl rfl rfl ?_
  refine kx_ldcS 3 F 11 (by decide) rfl rfl dX12_checkerPart_1 rfl ?_
  refine kx_Vi 6 (ci := 0) F (As := [vT G 11]) (st := []) vd_X12_208 (c_X12_inWords G l M  hI_M) kd_163 rfl rfl rfl ⟨by decide, by decide⟩ rfl rfl (Nat.le_of_ble_eq_true rfl) dX12_checkerPart_3 rfl ?_
  intro r_3 N_4 q_5
  obtain ⟨rfl, q_5c⟩ := q_5
  rcases q_5c with q_5c | q_5c
  · refine kx_istore_n 7 F 1 (lo' := [some (vR G 163), some (vI r_3), none]) dX12_checkerPart_6 rfl (by decide) rfl rfl rfl ?_
    refine kx_aload_n 8 F 0 dX12_checkerPart_7 rfl rfl rfl ?_
    refine kx_getr 11 F fl_X12_7 kd_163 rfl rfl (j := 0) rfl dX12_checkerPart_8 (v := 164) (uq_164 (Inv.r hI_M kd_163 rfl 0 rfl rfl)) rfl ?_
    refine kx_sipush 14 F dX12_checkerPart_11 (by decide) rfl ?_
    refine kx_iald 15 F kd_164 rfl rfl (by omega) (by decide) dX12_checkerPart_14 (v := (M 164 1091)) rfl rfl ?_
    have ha_6 : atlo 1091 = 0 ∧ athi 1091 = 2 := at_c 1091 4 (o := 3) (lo := 0) (hi := 2) (by omega) (by decide) (by decide) (by decide)
    have h_7 := Inv.g hI_M kd_164 rfl 1091 (a := 0) (b := 2) ha_6.1 ha_6.2
    refine kx_iconst 16 F dX12_checkerPart_15 rfl ?_
    refine kx_isub 17 F (v := (M 164 1091) - 1) dX12_checkerPart_16 rfl rfl ?_
    refine kx_istore_n 18 F 2 (lo' := [some (vR G 163), some (vI r_3), some (vI ((M 164 1091) - 1))]) dX12_checkerPart_17 rfl (by decide) rfl rfl rfl ?_
    refine kx_iload_n 19 F 1 dX12_checkerPart_18 rfl rfl rfl ?_
    refine kx_if_lt 22 F 38 dX12_checkerPart_19 (by decide) rfl (by omega) (fun h_8 => ?_) (fun h_8 => (by exfalso; omega))
    refine kx_aload_n 39 F 0 dX12_checkerPart_38 rfl rfl rfl ?_
    refine kx_iconst 40 F dX12_checkerPart_39 rfl ?_
    refine kx_Vi 43 (ci := 0) F (As := [vI 2]) (st := []) vd_X12_205 (c_X12_fails G l M 2 hI_M (by omega)) kd_163 rfl rfl rfl ⟨by decide, by decide⟩ rfl rfl (Nat.le_of_ble_eq_true rfl) dX12_checkerPart_40 rfl ?_
    intro r_9 N_10 q_11
    obtain ⟨hI_N_10, hG_N_10, q_11c⟩ := q_11
    have hF_N_10 : Fr f_c_X12_checkerPart M N_10 := Fr.c hF_M hG_N_10 rfl
    have h_12 := Inv.g hI_N_10 kd_163 rfl 18 (a := (-2147483648)) (b := 2147483647) rfl rfl
    have e_13 : (N_10 163 14) = (M 163 14) := by rw [Fr.e hG_N_10 kd_163 _ rfl]
    have e_14 : (N_10 163 12) = (M 163 12) := by rw [Fr.e hG_N_10 kd_163 _ rfl]
    have e_15 : (N_10 163 14) = (M 163 14) := by rw [Fr.e hG_N_10 kd_163 _ rfl]
    have e_16 : (N_10 163 12) = (M 163 12) := by rw [Fr.e hG_N_10 kd_163 _ rfl]
    exact kx_zret F hQ (by omega) ⟨hI_N_10, hF_N_10, (by omega), ⟨(LO.fr (LO.rf M) hG_N_10 rfl), (fun h => absurd h (by omega))⟩⟩ dX12_checkerPart_43
  · refine kx_istore_n 7 F 1 (lo' := [some (vR G 163), some (vI r_3), none]) dX12_checkerPart_6 rfl (by decide) rfl rfl rfl ?_
    refine kx_aload_n 8 F 0 dX12_checkerPart_7 rfl rfl rfl ?_
    refine kx_getr 11 F fl_X12_7 kd_163 rfl rfl (j := 0) rfl dX12_checkerPart_8 (v := 164) (uq_164 (Inv.r hI_M kd_163 rfl 0 rfl rfl)) rfl ?_
    refine kx_sipush 14 F dX12_checkerPart_11 (by decide) rfl ?_
    refine kx_iald 15 F kd_164 rfl rfl (by omega) (by decide) dX12_checkerPart_14 (v := (M 164 1091)) rfl rfl ?_
    have ha_17 : atlo 1091 = 0 ∧ athi 1091 = 2 := at_c 1091 4 (o := 3) (lo := 0) (hi := 2) (by omega) (by decide) (by decide) (by decide)
    have h_18 := Inv.g hI_M kd_164 rfl 1091 (a := 0) (b := 2) ha_17.1 ha_17.2
    refine kx_iconst 16 F dX12_checkerPart_15 rfl ?_
    refine kx_isub 17 F (v := (M 164 1091) - 1) dX12_checkerPart_16 rfl rfl ?_
    refine kx_istore_n 18 F 2 (lo' := [some (vR G 163), some (vI r_3), some (vI ((M 164 1091) - 1))]) dX12_checkerPart_17 rfl (by decide) rfl rfl rfl ?_
    refine kx_iload_n 19 F 1 dX12_checkerPart_18 rfl rfl rfl ?_
    refine kx_if_lt 22 F 38 dX12_checkerPart_19 (by decide) rfl (by omega) (fun h_19 => (by exfalso; omega)) (fun h_19 => ?_)
    refine kx_iload_n 23 F 1 dX12_checkerPart_22 rfl rfl rfl ?_
    refine kx_bipush 25 F dX12_checkerPart_23 (by decide) rfl ?_
    refine kx_icmp_gt 28 F 38 dX12_checkerPart_25 (by decide) rfl (by omega) (by decide) (fun h_20 => ?_) (fun h_20 => ?_)
    · refine kx_aload_n 39 F 0 dX12_checkerPart_38 rfl rfl rfl ?_
      refine kx_iconst 40 F dX12_checkerPart_39 rfl ?_
      refine kx_Vi 43 (ci := 0) F (As := [vI 2]) (st := []) vd_X12_205 (c_X12_fails G l M 2 hI_M (by omega)) kd_163 rfl rfl rfl ⟨by decide, by decide⟩ rfl rfl (Nat.le_of_ble_eq_true rfl) dX12_checkerPart_40 rfl ?_
      intro r_21 N_22 q_23
      obtain ⟨hI_N_22, hG_N_22, q_23c⟩ := q_23
      have hF_N_22 : Fr f_c_X12_checkerPart M N_22 := Fr.c hF_M hG_N_22 rfl
      have h_24 := Inv.g hI_N_22 kd_163 rfl 18 (a := (-2147483648)) (b := 2147483647) rfl rfl
      have e_25 : (N_22 163 14) = (M 163 14) := by rw [Fr.e hG_N_22 kd_163 _ rfl]
      have e_26 : (N_22 163 12) = (M 163 12) := by rw [Fr.e hG_N_22 kd_163 _ rfl]
      have e_27 : (N_22 163 14) = (M 163 14) := by rw [Fr.e hG_N_22 kd_163 _ rfl]
      have e_28 : (N_22 163 12) = (M 163 12) := by rw [Fr.e hG_N_22 kd_163 _ rfl]
      exact kx_zret F hQ (by omega) ⟨hI_N_22, hF_N_22, (by omega), ⟨(LO.fr (LO.rf M) hG_N_22 rfl), (fun h => absurd h (by omega))⟩⟩ dX12_checkerPart_43
    · refine kx_iload_n 29 F 1 dX12_checkerPart_28 rfl rfl rfl ?_
      refine kx_iconst 30 F dX12_checkerPart_29 rfl ?_
      refine kx_icmp_le 33 F 44 dX12_checkerPart_30 (by decide) rfl (by omega) (by decide) (fun h_29 => ?_) (fun h_29 => ?_)
      · refine kx_iload_n 45 F 1 dX12_checkerPart_44 rfl rfl rfl ?_
        have h_30 : r_3 = 3 ∨ r_3 = 4 ∨ r_3 = 5 ∨ r_3 = 6 ∨ (r_3 < 3 ∨ 6 < r_3) := by omega
        rcases h_30 with h_30 | h_30 | h_30 | h_30 | h_30
        · rw [show vI r_3 = vI 3 by rw [h_30]]
          refine kx_tableIn 76 F (by decide) dX12_checkerPart_45 (by decide) rfl (by decide) ?_
          refine kx_aload_n 77 F 0 dX12_checkerPart_76 rfl rfl rfl ?_
          refine kx_Vi 80 (ci := 0) F (As := []) (st := []) vd_X12_257 (c_X12_anAutomaton G l M  hI_M hR) kd_163 rfl rfl rfl ⟨by decide, by decide⟩ rfl rfl (Nat.le_of_ble_eq_true rfl) dX12_checkerPart_77 rfl ?_
          intro r_31 N_32 q_33
          obtain ⟨hI_N_32, hG_N_32, q_33c, hl_N_32⟩ := q_33
          have hF_N_32 : Fr f_c_X12_checkerPart M N_32 := Fr.c hF_M hG_N_32 rfl
          have h_34 := Inv.g hI_N_32 kd_163 rfl 14 (a := 0) (b := 900) rfl rfl
          have h_35 := Inv.g hI_N_32 kd_163 rfl 12 (a := 0) (b := 4) rfl rfl
          have h_36 := Inv.g hI_N_32 kd_163 rfl 14 (a := 0) (b := 900) rfl rfl
          have h_37 := Inv.g hI_N_32 kd_163 rfl 12 (a := 0) (b := 4) rfl rfl
          have h_38 := Inv.g hI_N_32 kd_163 rfl 18 (a := (-2147483648)) (b := 2147483647) rfl rfl
          rcases q_33c with q_33c | q_33c
          · refine kx_if_eq 83 F 96 dX12_checkerPart_80 (by decide) rfl (by omega) (fun h_39 => (by exfalso; omega)) (fun h_39 => ?_)
            refine kx_aload_n 84 F 0 dX12_checkerPart_83 rfl rfl rfl ?_
            refine kx_bipush 86 F dX12_checkerPart_84 (by decide) rfl ?_
            refine kx_Vi 89 (ci := 0) F (As := [vI 59]) (st := []) vd_X12_261 (c_X12_wantSign G l N_32 59 hI_N_32 (by omega)) kd_163 rfl rfl rfl ⟨by decide, by decide⟩ rfl rfl (Nat.le_of_ble_eq_true rfl) dX12_checkerPart_86 rfl ?_
            intro r_40 N_41 q_42
            obtain ⟨hI_N_41, hG_N_41, q_42c⟩ := q_42
            have hF_N_41 : Fr f_c_X12_checkerPart M N_41 := Fr.c hF_N_32 hG_N_41 rfl
            have h_43 := Inv.g hI_N_41 kd_163 rfl 14 (a := 0) (b := 900) rfl rfl
            have h_44 := Inv.g hI_N_41 kd_163 rfl 12 (a := 0) (b := 4) rfl rfl
            have h_45 := Inv.g hI_N_41 kd_163 rfl 14 (a := 0) (b := 900) rfl rfl
            have h_46 := Inv.g hI_N_41 kd_163 rfl 12 (a := 0) (b := 4) rfl rfl
            have h_47 := Inv.g hI_N_41 kd_163 rfl 18 (a := (-2147483648)) (b := 2147483647) rfl rfl
            rcases q_42c with q_42c | q_42c
            · refine kx_if_eq 92 F 96 dX12_checkerPart_89 (by decide) rfl (by omega) (fun h_48 => (by exfalso; omega)) (fun h_48 => ?_)
              refine kx_iconst 93 F dX12_checkerPart_92 rfl ?_
              refine kx_goto 97 F dX12_checkerPart_93 (by decide) ?_
              have h_49 := Inv.g hI_N_41 kd_163 rfl 18 (a := (-2147483648)) (b := 2147483647) rfl rfl
              exact kx_zret F hQ (by omega) ⟨hI_N_41, hF_N_41, (by omega), ⟨(LO.fr (LO.trans (LO.rf M) hl_N_32.1) hG_N_41 rfl), (fun _ => (R4.fr (hl_N_32.2 (by omega)) hG_N_41 rfl))⟩⟩ dX12_checkerPart_97
            · refine kx_if_eq 92 F 96 dX12_checkerPart_89 (by decide) rfl (by omega) (fun h_50 => ?_) (fun h_50 => (by exfalso; omega))
              refine kx_iconst 97 F dX12_checkerPart_96 rfl ?_
              exact kx_zret F hQ (by omega) ⟨hI_N_41, hF_N_41, (by omega), ⟨(LO.fr (LO.trans (LO.rf M) hl_N_32.1) hG_N_41 rfl), (fun h => absurd h (by omega))⟩⟩ dX12_checkerPart_97
          · refine kx_if_eq 83 F 96 dX12_checkerPart_80 (by decide) rfl (by omega) (fun h_51 => ?_) (fun h_51 => (by exfalso; omega))
            refine kx_iconst 97 F dX12_checkerPart_96 rfl ?_
            exact kx_zret F hQ (by omega) ⟨hI_N_32, hF_N_32, (by omega), ⟨(LO.trans (LO.rf M) hl_N_32.1), (fun h => absurd h (by omega))⟩⟩ dX12_checkerPart_97
        · exfalso; omega
        · exfalso; omega
        · exfalso; omega
        · refine kx_tableOut 197 F (by omega) dX12_checkerPart_45 h_30 (by decide) ?_
          refine kx_aload_n 198 F 0 dX12_checkerPart_197 rfl rfl rfl ?_
          refine kx_iload_n 199 F 1 dX12_checkerPart_198 rfl rfl rfl ?_
          refine kx_Vi 202 (ci := 0) F (As := [vI r_3]) (st := []) vd_X12_270 (c_X12_aLetter G l M r_3 hI_M (by omega) hR) kd_163 rfl rfl rfl ⟨by decide, by decide⟩ rfl rfl (Nat.le_of_ble_eq_true rfl) dX12_checkerPart_199 rfl ?_
          intro r_52 N_53 q_54
          obtain ⟨hI_N_53, hG_N_53, q_54c, hl_N_53⟩ := q_54
          have hF_N_53 : Fr f_c_X12_checkerPart M N_53 := Fr.c hF_M hG_N_53 rfl
          have h_55 := Inv.g hI_N_53 kd_163 rfl 14 (a := 0) (b := 900) rfl rfl
          have h_56 := Inv.g hI_N_53 kd_163 rfl 12 (a := 0) (b := 4) rfl rfl
          have h_57 := Inv.g hI_N_53 kd_163 rfl 14 (a := 0) (b := 900) rfl rfl
          have h_58 := Inv.g hI_N_53 kd_163 rfl 12 (a := 0) (b := 4) rfl rfl
          have h_59 := Inv.g hI_N_53 kd_163 rfl 18 (a := (-2147483648)) (b := 2147483647) rfl rfl
          rcases q_54c with q_54c | q_54c
          · refine kx_if_eq 205 F 218 dX12_checkerPart_202 (by decide) rfl (by omega) (fun h_60 => (by exfalso; omega)) (fun h_60 => ?_)
            refine kx_aload_n 206 F 0 dX12_checkerPart_205 rfl rfl rfl ?_
            refine kx_bipush 208 F dX12_checkerPart_206 (by decide) rfl ?_
            refine kx_Vi 211 (ci := 0) F (As := [vI 59]) (st := []) vd_X12_261 (c_X12_wantSign G l N_53 59 hI_N_53 (by omega)) kd_163 rfl rfl rfl ⟨by decide, by decide⟩ rfl rfl (Nat.le_of_ble_eq_true rfl) dX12_checkerPart_208 rfl ?_
            intro r_61 N_62 q_63
            obtain ⟨hI_N_62, hG_N_62, q_63c⟩ := q_63
            have hF_N_62 : Fr f_c_X12_checkerPart M N_62 := Fr.c hF_N_53 hG_N_62 rfl
            have h_64 := Inv.g hI_N_62 kd_163 rfl 14 (a := 0) (b := 900) rfl rfl
            have h_65 := Inv.g hI_N_62 kd_163 rfl 12 (a := 0) (b := 4) rfl rfl
            have h_66 := Inv.g hI_N_62 kd_163 rfl 14 (a := 0) (b := 900) rfl rfl
            have h_67 := Inv.g hI_N_62 kd_163 rfl 12 (a := 0) (b := 4) rfl rfl
            have h_68 := Inv.g hI_N_62 kd_163 rfl 18 (a := (-2147483648)) (b := 2147483647) rfl rfl
            rcases q_63c with q_63c | q_63c
            · refine kx_if_eq 214 F 218 dX12_checkerPart_211 (by decide) rfl (by omega) (fun h_69 => (by exfalso; omega)) (fun h_69 => ?_)
              refine kx_iconst 215 F dX12_checkerPart_214 rfl ?_
              refine kx_goto 219 F dX12_checkerPart_215 (by decide) ?_
              have h_70 := Inv.g hI_N_62 kd_163 rfl 18 (a := (-2147483648)) (b := 2147483647) rfl rfl
              exact kx_zret F hQ (by omega) ⟨hI_N_62, hF_N_62, (by omega), ⟨(LO.fr (LO.trans (LO.rf M) hl_N_53.1) hG_N_62 rfl), (fun _ => (R4.fr (hl_N_53.2 (by omega)) hG_N_62 rfl))⟩⟩ dX12_checkerPart_219
            · refine kx_if_eq 214 F 218 dX12_checkerPart_211 (by decide) rfl (by omega) (fun h_71 => ?_) (fun h_71 => (by exfalso; omega))
              refine kx_iconst 219 F dX12_checkerPart_218 rfl ?_
              exact kx_zret F hQ (by omega) ⟨hI_N_62, hF_N_62, (by omega), ⟨(LO.fr (LO.trans (LO.rf M) hl_N_53.1) hG_N_62 rfl), (fun h => absurd h (by omega))⟩⟩ dX12_checkerPart_219
          · refine kx_if_eq 205 F 218 dX12_checkerPart_202 (by decide) rfl (by omega) (fun h_72 => ?_) (fun h_72 => (by exfalso; omega))
            refine kx_iconst 219 F dX12_checkerPart_218 rfl ?_
            exact kx_zret F hQ (by omega) ⟨hI_N_53, hF_N_53, (by omega), ⟨(LO.trans (LO.rf M) hl_N_53.1), (fun h => absurd h (by omega))⟩⟩ dX12_checkerPart_219
      · refine kx_iload_n 34 F 2 dX12_checkerPart_33 rfl rfl rfl ?_
        refine kx_iconst 35 F dX12_checkerPart_34 rfl ?_
        refine kx_icmp_ne 38 F 44 dX12_checkerPart_35 (by decide) rfl (by omega) (by decide) (fun h_73 => ?_) (fun h_73 => ?_)
        · refine kx_iload_n 45 F 1 dX12_checkerPart_44 rfl rfl rfl ?_
          have h_74 : r_3 = 3 ∨ r_3 = 4 ∨ r_3 = 5 ∨ r_3 = 6 ∨ (r_3 < 3 ∨ 6 < r_3) := by omega
          rcases h_74 with h_74 | h_74 | h_74 | h_74 | h_74
          · exfalso; omega
          · rw [show vI r_3 = vI 4 by rw [h_74]]
            refine kx_tableIn 98 F (by decide) dX12_checkerPart_45 (by decide) rfl (by decide) ?_
            refine kx_aload_n 99 F 0 dX12_checkerPart_98 rfl rfl rfl ?_
            refine kx_sipush 102 F dX12_checkerPart_99 (by decide) rfl ?_
            refine kx_iload_n 103 F 2 dX12_checkerPart_102 rfl rfl rfl ?_
            refine kx_Si 106 F (As := [vI 1088, vI ((M 164 1091) - 1)]) (st := [vR G 163]) sd_X12_216 (c_X12_rowOf G l M 1088 ((M 164 1091) - 1) hI_M (by omega)) ⟨by decide, by decide⟩ rfl rfl (Nat.le_of_ble_eq_true rfl) dX12_checkerPart_103 rfl ?_
            intro r_75 N_76 q_77
            obtain ⟨rfl, q_77c⟩ := q_77
            refine kx_topi (e' := 85 * (M 164 1091) + 1103) (by omega) ?_
            refine kx_sipush 109 F dX12_checkerPart_106 (by decide) rfl ?_
            refine kx_iload_n 110 F 2 dX12_checkerPart_109 rfl rfl rfl ?_
            refine kx_Si 113 F (As := [vI 1088, vI ((M 164 1091) - 1)]) (st := [vI (85 * (M 164 1091) + 1103), vR G 163]) sd_X12_216 (c_X12_rowOf G l M 1088 ((M 164 1091) - 1) hI_M (by omega)) ⟨by decide, by decide⟩ rfl rfl (Nat.le_of_ble_eq_true rfl) dX12_checkerPart_110 rfl ?_
            intro r_78 N_79 q_80
            obtain ⟨rfl, q_80c⟩ := q_80
            refine kx_topi (e' := 85 * (M 164 1091) + 1103) (by omega) ?_
            refine kx_iconst 114 F dX12_checkerPart_113 rfl ?_
            refine kx_iadd 115 F (v := 85 * (M 164 1091) + 1105) dX12_checkerPart_114 (by omega) rfl ?_
            have ha_81 : atlo (85 * (M 164 1091) + 1103) = 0 ∧ athi (85 * (M 164 1091) + 1103) = 3 := at_a (85 * (M 164 1091) + 1103) 4 ((M 164 1091) - 1) 0 (by omega) (by omega) (by decide)
            have ha_82 : atlo (85 * (M 164 1091) + 1105) = 0 ∧ athi (85 * (M 164 1091) + 1105) = 7 := at_a (85 * (M 164 1091) + 1105) 4 ((M 164 1091) - 1) 2 (by omega) (by omega) (by decide)
            refine kx_Vi 118 (ci := 0) F (As := [vI (85 * (M 164 1091) + 1103), vI (85 * (M 164 1091) + 1105)]) (st := []) vd_X12_264 (c_X12_states G l M (85 * (M 164 1091) + 1103) (85 * (M 164 1091) + 1105) hI_M (by omega) hR) kd_163 rfl rfl rfl ⟨by decide, by decide⟩ rfl rfl (Nat.le_of_ble_eq_true rfl) dX12_checkerPart_115 rfl ?_
            intro r_83 N_84 q_85
            obtain ⟨hI_N_84, hG_N_84, q_85c, hl_N_84⟩ := q_85
            have hF_N_84 : Fr f_c_X12_checkerPart M N_84 := Fr.c hF_M hG_N_84 rfl
            have h_86 := Inv.g hI_N_84 kd_163 rfl 14 (a := 0) (b := 900) rfl rfl
            have h_87 := Inv.g hI_N_84 kd_163 rfl 12 (a := 0) (b := 4) rfl rfl
            have h_88 := Inv.g hI_N_84 kd_163 rfl 14 (a := 0) (b := 900) rfl rfl
            have h_89 := Inv.g hI_N_84 kd_163 rfl 12 (a := 0) (b := 4) rfl rfl
            have h_90 := Inv.g hI_N_84 kd_163 rfl 18 (a := (-2147483648)) (b := 2147483647) rfl rfl
            rcases q_85c with q_85c | q_85c
            · refine kx_if_eq 121 F 134 dX12_checkerPart_118 (by decide) rfl (by omega) (fun h_91 => (by exfalso; omega)) (fun h_91 => ?_)
              refine kx_aload_n 122 F 0 dX12_checkerPart_121 rfl rfl rfl ?_
              refine kx_bipush 124 F dX12_checkerPart_122 (by decide) rfl ?_
              refine kx_Vi 127 (ci := 0) F (As := [vI 59]) (st := []) vd_X12_261 (c_X12_wantSign G l N_84 59 hI_N_84 (by omega)) kd_163 rfl rfl rfl ⟨by decide, by decide⟩ rfl rfl (Nat.le_of_ble_eq_true rfl) dX12_checkerPart_124 rfl ?_
              intro r_92 N_93 q_94
              obtain ⟨hI_N_93, hG_N_93, q_94c⟩ := q_94
              have hF_N_93 : Fr f_c_X12_checkerPart M N_93 := Fr.c hF_N_84 hG_N_93 rfl
              have h_95 := Inv.g hI_N_93 kd_163 rfl 14 (a := 0) (b := 900) rfl rfl
              have h_96 := Inv.g hI_N_93 kd_163 rfl 12 (a := 0) (b := 4) rfl rfl
              have h_97 := Inv.g hI_N_93 kd_163 rfl 14 (a := 0) (b := 900) rfl rfl
              have h_98 := Inv.g hI_N_93 kd_163 rfl 12 (a := 0) (b := 4) rfl rfl
              have h_99 := Inv.g hI_N_93 kd_163 rfl 18 (a := (-2147483648)) (b := 2147483647) rfl rfl
              rcases q_94c with q_94c | q_94c
              · refine kx_if_eq 130 F 134 dX12_checkerPart_127 (by decide) rfl (by omega) (fun h_100 => (by exfalso; omega)) (fun h_100 => ?_)
                refine kx_iconst 131 F dX12_checkerPart_130 rfl ?_
                refine kx_goto 135 F dX12_checkerPart_131 (by decide) ?_
                have h_101 := Inv.g hI_N_93 kd_163 rfl 18 (a := (-2147483648)) (b := 2147483647) rfl rfl
                exact kx_zret F hQ (by omega) ⟨hI_N_93, hF_N_93, (by omega), ⟨(LO.fr (LO.trans (LO.rf M) hl_N_84.1) hG_N_93 rfl), (fun _ => (R4.fr (hl_N_84.2 (by omega)) hG_N_93 rfl))⟩⟩ dX12_checkerPart_135
              · refine kx_if_eq 130 F 134 dX12_checkerPart_127 (by decide) rfl (by omega) (fun h_102 => ?_) (fun h_102 => (by exfalso; omega))
                refine kx_iconst 135 F dX12_checkerPart_134 rfl ?_
                exact kx_zret F hQ (by omega) ⟨hI_N_93, hF_N_93, (by omega), ⟨(LO.fr (LO.trans (LO.rf M) hl_N_84.1) hG_N_93 rfl), (fun h => absurd h (by omega))⟩⟩ dX12_checkerPart_135
            · refine kx_if_eq 121 F 134 dX12_checkerPart_118 (by decide) rfl (by omega) (fun h_103 => ?_) (fun h_103 => (by exfalso; omega))
              refine kx_iconst 135 F dX12_checkerPart_134 rfl ?_
              exact kx_zret F hQ (by omega) ⟨hI_N_84, hF_N_84, (by omega), ⟨(LO.trans (LO.rf M) hl_N_84.1), (fun h => absurd h (by omega))⟩⟩ dX12_checkerPart_135
          · rw [show vI r_3 = vI 5 by rw [h_74]]
            refine kx_tableIn 136 F (by decide) dX12_checkerPart_45 (by decide) rfl (by decide) ?_
            refine kx_aload_n 137 F 0 dX12_checkerPart_136 rfl rfl rfl ?_
            refine kx_sipush 140 F dX12_checkerPart_137 (by decide) rfl ?_
            refine kx_iload_n 141 F 2 dX12_checkerPart_140 rfl rfl rfl ?_
            refine kx_Si 144 F (As := [vI 1088, vI ((M 164 1091) - 1)]) (st := [vR G 163]) sd_X12_216 (c_X12_rowOf G l M 1088 ((M 164 1091) - 1) hI_M (by omega)) ⟨by decide, by decide⟩ rfl rfl (Nat.le_of_ble_eq_true rfl) dX12_checkerPart_141 rfl ?_
            intro r_104 N_105 q_106
            obtain ⟨rfl, q_106c⟩ := q_106
            refine kx_topi (e' := 85 * (M 164 1091) + 1103) (by omega) ?_
            refine kx_sipush 147 F dX12_checkerPart_144 (by decide) rfl ?_
            refine kx_iload_n 148 F 2 dX12_checkerPart_147 rfl rfl rfl ?_
            refine kx_Si 151 F (As := [vI 1088, vI ((M 164 1091) - 1)]) (st := [vI (85 * (M 164 1091) + 1103), vR G 163]) sd_X12_216 (c_X12_rowOf G l M 1088 ((M 164 1091) - 1) hI_M (by omega)) ⟨by decide, by decide⟩ rfl rfl (Nat.le_of_ble_eq_true rfl) dX12_checkerPart_148 rfl ?_
            intro r_107 N_108 q_109
            obtain ⟨rfl, q_109c⟩ := q_109
            refine kx_topi (e' := 85 * (M 164 1091) + 1103) (by omega) ?_
            refine kx_iconst 152 F dX12_checkerPart_151 rfl ?_
            refine kx_iadd 153 F (v := 85 * (M 164 1091) + 1106) dX12_checkerPart_152 (by omega) rfl ?_
            have ha_110 : atlo (85 * (M 164 1091) + 1103) = 0 ∧ athi (85 * (M 164 1091) + 1103) = 3 := at_a (85 * (M 164 1091) + 1103) 4 ((M 164 1091) - 1) 0 (by omega) (by omega) (by decide)
            have ha_111 : atlo (85 * (M 164 1091) + 1106) = 0 ∧ athi (85 * (M 164 1091) + 1106) = 7 := at_a (85 * (M 164 1091) + 1106) 4 ((M 164 1091) - 1) 3 (by omega) (by omega) (by decide)
            refine kx_Vi 156 (ci := 0) F (As := [vI (85 * (M 164 1091) + 1103), vI (85 * (M 164 1091) + 1106)]) (st := []) vd_X12_264 (c_X12_states G l M (85 * (M 164 1091) + 1103) (85 * (M 164 1091) + 1106) hI_M (by omega) hR) kd_163 rfl rfl rfl ⟨by decide, by decide⟩ rfl rfl (Nat.le_of_ble_eq_true rfl) dX12_checkerPart_153 rfl ?_
            intro r_112 N_113 q_114
            obtain ⟨hI_N_113, hG_N_113, q_114c, hl_N_113⟩ := q_114
            have hF_N_113 : Fr f_c_X12_checkerPart M N_113 := Fr.c hF_M hG_N_113 rfl
            have h_115 := Inv.g hI_N_113 kd_163 rfl 14 (a := 0) (b := 900) rfl rfl
            have h_116 := Inv.g hI_N_113 kd_163 rfl 12 (a := 0) (b := 4) rfl rfl
            have h_117 := Inv.g hI_N_113 kd_163 rfl 14 (a := 0) (b := 900) rfl rfl
            have h_118 := Inv.g hI_N_113 kd_163 rfl 12 (a := 0) (b := 4) rfl rfl
            have h_119 := Inv.g hI_N_113 kd_163 rfl 18 (a := (-2147483648)) (b := 2147483647) rfl rfl
            rcases q_114c with q_114c | q_114c
            · refine kx_if_eq 159 F 172 dX12_checkerPart_156 (by decide) rfl (by omega) (fun h_120 => (by exfalso; omega)) (fun h_120 => ?_)
              refine kx_aload_n 160 F 0 dX12_checkerPart_159 rfl rfl rfl ?_
              refine kx_bipush 162 F dX12_checkerPart_160 (by decide) rfl ?_
              refine kx_Vi 165 (ci := 0) F (As := [vI 59]) (st := []) vd_X12_261 (c_X12_wantSign G l N_113 59 hI_N_113 (by omega)) kd_163 rfl rfl rfl ⟨by decide, by decide⟩ rfl rfl (Nat.le_of_ble_eq_true rfl) dX12_checkerPart_162 rfl ?_
              intro r_121 N_122 q_123
              obtain ⟨hI_N_122, hG_N_122, q_123c⟩ := q_123
              have hF_N_122 : Fr f_c_X12_checkerPart M N_122 := Fr.c hF_N_113 hG_N_122 rfl
              have h_124 := Inv.g hI_N_122 kd_163 rfl 14 (a := 0) (b := 900) rfl rfl
              have h_125 := Inv.g hI_N_122 kd_163 rfl 12 (a := 0) (b := 4) rfl rfl
              have h_126 := Inv.g hI_N_122 kd_163 rfl 14 (a := 0) (b := 900) rfl rfl
              have h_127 := Inv.g hI_N_122 kd_163 rfl 12 (a := 0) (b := 4) rfl rfl
              have h_128 := Inv.g hI_N_122 kd_163 rfl 18 (a := (-2147483648)) (b := 2147483647) rfl rfl
              rcases q_123c with q_123c | q_123c
              · refine kx_if_eq 168 F 172 dX12_checkerPart_165 (by decide) rfl (by omega) (fun h_129 => (by exfalso; omega)) (fun h_129 => ?_)
                refine kx_iconst 169 F dX12_checkerPart_168 rfl ?_
                refine kx_goto 173 F dX12_checkerPart_169 (by decide) ?_
                have h_130 := Inv.g hI_N_122 kd_163 rfl 18 (a := (-2147483648)) (b := 2147483647) rfl rfl
                exact kx_zret F hQ (by omega) ⟨hI_N_122, hF_N_122, (by omega), ⟨(LO.fr (LO.trans (LO.rf M) hl_N_113.1) hG_N_122 rfl), (fun _ => (R4.fr (hl_N_113.2 (by omega)) hG_N_122 rfl))⟩⟩ dX12_checkerPart_173
              · refine kx_if_eq 168 F 172 dX12_checkerPart_165 (by decide) rfl (by omega) (fun h_131 => ?_) (fun h_131 => (by exfalso; omega))
                refine kx_iconst 173 F dX12_checkerPart_172 rfl ?_
                exact kx_zret F hQ (by omega) ⟨hI_N_122, hF_N_122, (by omega), ⟨(LO.fr (LO.trans (LO.rf M) hl_N_113.1) hG_N_122 rfl), (fun h => absurd h (by omega))⟩⟩ dX12_checkerPart_173
            · refine kx_if_eq 159 F 172 dX12_checkerPart_156 (by decide) rfl (by omega) (fun h_132 => ?_) (fun h_132 => (by exfalso; omega))
              refine kx_iconst 173 F dX12_checkerPart_172 rfl ?_
              exact kx_zret F hQ (by omega) ⟨hI_N_113, hF_N_113, (by omega), ⟨(LO.trans (LO.rf M) hl_N_113.1), (fun h => absurd h (by omega))⟩⟩ dX12_checkerPart_173
          · rw [show vI r_3 = vI 6 by rw [h_74]]
            refine kx_tableIn 174 F (by decide) dX12_checkerPart_45 (by decide) rfl (by decide) ?_
            refine kx_aload_n 175 F 0 dX12_checkerPart_174 rfl rfl rfl ?_
            refine kx_iload_n 176 F 2 dX12_checkerPart_175 rfl rfl rfl ?_
            refine kx_Vi 179 (ci := 0) F (As := [vI ((M 164 1091) - 1)]) (st := []) vd_X12_267 (c_X12_aRule G l M ((M 164 1091) - 1) hI_M (by omega) hR) kd_163 rfl rfl rfl ⟨by decide, by decide⟩ rfl rfl (Nat.le_of_ble_eq_true rfl) dX12_checkerPart_176 rfl ?_
            intro r_133 N_134 q_135
            obtain ⟨hI_N_134, hG_N_134, q_135c, hl_N_134⟩ := q_135
            have hF_N_134 : Fr f_c_X12_checkerPart M N_134 := Fr.c hF_M hG_N_134 rfl
            have h_136 := Inv.g hI_N_134 kd_163 rfl 14 (a := 0) (b := 900) rfl rfl
            have h_137 := Inv.g hI_N_134 kd_163 rfl 12 (a := 0) (b := 4) rfl rfl
            have h_138 := Inv.g hI_N_134 kd_163 rfl 14 (a := 0) (b := 900) rfl rfl
            have h_139 := Inv.g hI_N_134 kd_163 rfl 12 (a := 0) (b := 4) rfl rfl
            have h_140 := Inv.g hI_N_134 kd_163 rfl 18 (a := (-2147483648)) (b := 2147483647) rfl rfl
            rcases q_135c with q_135c | q_135c
            · refine kx_if_eq 182 F 195 dX12_checkerPart_179 (by decide) rfl (by omega) (fun h_141 => (by exfalso; omega)) (fun h_141 => ?_)
              refine kx_aload_n 183 F 0 dX12_checkerPart_182 rfl rfl rfl ?_
              refine kx_bipush 185 F dX12_checkerPart_183 (by decide) rfl ?_
              refine kx_Vi 188 (ci := 0) F (As := [vI 59]) (st := []) vd_X12_261 (c_X12_wantSign G l N_134 59 hI_N_134 (by omega)) kd_163 rfl rfl rfl ⟨by decide, by decide⟩ rfl rfl (Nat.le_of_ble_eq_true rfl) dX12_checkerPart_185 rfl ?_
              intro r_142 N_143 q_144
              obtain ⟨hI_N_143, hG_N_143, q_144c⟩ := q_144
              have hF_N_143 : Fr f_c_X12_checkerPart M N_143 := Fr.c hF_N_134 hG_N_143 rfl
              have h_145 := Inv.g hI_N_143 kd_163 rfl 14 (a := 0) (b := 900) rfl rfl
              have h_146 := Inv.g hI_N_143 kd_163 rfl 12 (a := 0) (b := 4) rfl rfl
              have h_147 := Inv.g hI_N_143 kd_163 rfl 14 (a := 0) (b := 900) rfl rfl
              have h_148 := Inv.g hI_N_143 kd_163 rfl 12 (a := 0) (b := 4) rfl rfl
              have h_149 := Inv.g hI_N_143 kd_163 rfl 18 (a := (-2147483648)) (b := 2147483647) rfl rfl
              rcases q_144c with q_144c | q_144c
              · refine kx_if_eq 191 F 195 dX12_checkerPart_188 (by decide) rfl (by omega) (fun h_150 => (by exfalso; omega)) (fun h_150 => ?_)
                refine kx_iconst 192 F dX12_checkerPart_191 rfl ?_
                refine kx_goto 196 F dX12_checkerPart_192 (by decide) ?_
                have h_151 := Inv.g hI_N_143 kd_163 rfl 18 (a := (-2147483648)) (b := 2147483647) rfl rfl
                exact kx_zret F hQ (by omega) ⟨hI_N_143, hF_N_143, (by omega), ⟨(LO.fr (LO.trans (LO.rf M) hl_N_134.1) hG_N_143 rfl), (fun _ => (R4.fr (hl_N_134.2 (by omega)) hG_N_143 rfl))⟩⟩ dX12_checkerPart_196
              · refine kx_if_eq 191 F 195 dX12_checkerPart_188 (by decide) rfl (by omega) (fun h_152 => ?_) (fun h_152 => (by exfalso; omega))
                refine kx_iconst 196 F dX12_checkerPart_195 rfl ?_
                exact kx_zret F hQ (by omega) ⟨hI_N_143, hF_N_143, (by omega), ⟨(LO.fr (LO.trans (LO.rf M) hl_N_134.1) hG_N_143 rfl), (fun h => absurd h (by omega))⟩⟩ dX12_checkerPart_196
            · refine kx_if_eq 182 F 195 dX12_checkerPart_179 (by decide) rfl (by omega) (fun h_153 => ?_) (fun h_153 => (by exfalso; omega))
              refine kx_iconst 196 F dX12_checkerPart_195 rfl ?_
              exact kx_zret F hQ (by omega) ⟨hI_N_134, hF_N_134, (by omega), ⟨(LO.trans (LO.rf M) hl_N_134.1), (fun h => absurd h (by omega))⟩⟩ dX12_checkerPart_196
          · exfalso; omega
        · refine kx_aload_n 39 F 0 dX12_checkerPart_38 rfl rfl rfl ?_
          refine kx_iconst 40 F dX12_checkerPart_39 rfl ?_
          refine kx_Vi 43 (ci := 0) F (As := [vI 2]) (st := []) vd_X12_205 (c_X12_fails G l M 2 hI_M (by omega)) kd_163 rfl rfl rfl ⟨by decide, by decide⟩ rfl rfl (Nat.le_of_ble_eq_true rfl) dX12_checkerPart_40 rfl ?_
          intro r_154 N_155 q_156
          obtain ⟨hI_N_155, hG_N_155, q_156c⟩ := q_156
          have hF_N_155 : Fr f_c_X12_checkerPart M N_155 := Fr.c hF_M hG_N_155 rfl
          have h_157 := Inv.g hI_N_155 kd_163 rfl 18 (a := (-2147483648)) (b := 2147483647) rfl rfl
          have e_158 : (N_155 163 14) = (M 163 14) := by rw [Fr.e hG_N_155 kd_163 _ rfl]
          have e_159 : (N_155 163 12) = (M 163 12) := by rw [Fr.e hG_N_155 kd_163 _ rfl]
          have e_160 : (N_155 163 14) = (M 163 14) := by rw [Fr.e hG_N_155 kd_163 _ rfl]
          have e_161 : (N_155 163 12) = (M 163 12) := by rw [Fr.e hG_N_155 kd_163 _ rfl]
          exact kx_zret F hQ (by omega) ⟨hI_N_155, hF_N_155, (by omega), ⟨(LO.fr (LO.rf M) hG_N_155 rfl), (fun h => absurd h (by omega))⟩⟩ dX12_checkerPart_43
