abbrev cL_law : ByteArray := code
set_option maxRecDepth 100000 in
theorem dGR_45_lawrows_1252 : (decode cL_law 0 = .ok (.new 7, 3)) ∧ (decode cL_law 3 = .ok (.dup, 1)) ∧ (decode cL_law 4 = .ok (.invokespecial 9, 3)) ∧ (decode cL_law 7 = .ok (.astore_n 1, 1)) ∧ (decode cL_law 8 = .ok (.new 10, 3)) ∧ (decode cL_law 11 = .ok (.dup, 1)) ∧ (decode cL_law 12 = .ok (.invokespecial 12, 3)) ∧ (decode cL_law 15 = .ok (.astore_n 2, 1)) ∧ (decode cL_law 16 = .ok (.iconst 0, 1)) ∧ (decode cL_law 17 = .ok (.istore_n 3, 1)) ∧ (decode cL_law 18 = .ok (.iload_n 3, 1)) ∧ (decode cL_law 19 = .ok (.aload_n 0, 1)) := by decide +kernel
theorem dL_law_0 : decode cL_law 0 = .ok (.new 7, 3) := dGR_45_lawrows_1252.1
theorem dL_law_3 : decode cL_law 3 = .ok (.dup, 1) := dGR_45_lawrows_1252.2.1
theorem dL_law_4 : decode cL_law 4 = .ok (.invokespecial 9, 3) := dGR_45_lawrows_1252.2.2.1
theorem dL_law_7 : decode cL_law 7 = .ok (.astore_n 1, 1) := dGR_45_lawrows_1252.2.2.2.1
theorem dL_law_8 : decode cL_law 8 = .ok (.new 10, 3) := dGR_45_lawrows_1252.2.2.2.2.1
theorem dL_law_11 : decode cL_law 11 = .ok (.dup, 1) := dGR_45_lawrows_1252.2.2.2.2.2.1
theorem dL_law_12 : decode cL_law 12 = .ok (.invokespecial 12, 3) := dGR_45_lawrows_1252.2.2.2.2.2.2.1
theorem dL_law_15 : decode cL_law 15 = .ok (.astore_n 2, 1) := dGR_45_lawrows_1252.2.2.2.2.2.2.2.1
theorem dL_law_16 : decode cL_law 16 = .ok (.iconst 0, 1) := dGR_45_lawrows_1252.2.2.2.2.2.2.2.2.1
theorem dL_law_17 : decode cL_law 17 = .ok (.istore_n 3, 1) := dGR_45_lawrows_1252.2.2.2.2.2.2.2.2.2.1
theorem dL_law_18 : decode cL_law 18 = .ok (.iload_n 3, 1) := dGR_45_lawrows_1252.2.2.2.2.2.2.2.2.2.2.1
theorem dL_law_19 : decode cL_law 19 = .ok (.aload_n 0, 1) := dGR_45_lawrows_1252.2.2.2.2.2.2.2.2.2.2.2
set_option maxRecDepth 100000 in
theorem dGR_45_lawrows_1253 : (decode cL_law 20 = .ok (.arraylength, 1)) ∧ (decode cL_law 21 = .ok (.bipush 6, 2)) ∧ (decode cL_law 23 = .ok (.isub, 1)) ∧ (decode cL_law 24 = .ok (.if_icmp .gt 2032, 3)) ∧ (decode cL_law 27 = .ok (.aload_n 0, 1)) ∧ (decode cL_law 28 = .ok (.iload_n 3, 1)) ∧ (decode cL_law 29 = .ok (.iaload, 1)) ∧ (decode cL_law 30 = .ok (.bipush 63, 2)) ∧ (decode cL_law 32 = .ok (.iand, 1)) ∧ (decode cL_law 33 = .ok (.tableswitch 2017 0 49 #[215, 228, 241, 254, 297, 370, 403, 466, 529, 552, 575, 598, 631, 674, 737, 770, 829, 888, 921, 964, 1007, 1050, 1093, 1136, 1159, 1202, 1245, 1308, 1351, 1374, 1397, 1430, 1463, 1506, 1539, 1582, 1605, 1638, 1671, 1704, 1737, 1770, 1813, 1856, 1909, 1932, 1955, 1978, 1991, 2004], 215)) ∧ (decode cL_law 248 = .ok (.aload_n 1, 1)) ∧ (decode cL_law 249 = .ok (.invokevirtual 13, 3)) := by decide +kernel
theorem dL_law_20 : decode cL_law 20 = .ok (.arraylength, 1) := dGR_45_lawrows_1253.1
theorem dL_law_21 : decode cL_law 21 = .ok (.bipush 6, 2) := dGR_45_lawrows_1253.2.1
theorem dL_law_23 : decode cL_law 23 = .ok (.isub, 1) := dGR_45_lawrows_1253.2.2.1
theorem dL_law_24 : decode cL_law 24 = .ok (.if_icmp .gt 2032, 3) := dGR_45_lawrows_1253.2.2.2.1
theorem dL_law_27 : decode cL_law 27 = .ok (.aload_n 0, 1) := dGR_45_lawrows_1253.2.2.2.2.1
theorem dL_law_28 : decode cL_law 28 = .ok (.iload_n 3, 1) := dGR_45_lawrows_1253.2.2.2.2.2.1
theorem dL_law_29 : decode cL_law 29 = .ok (.iaload, 1) := dGR_45_lawrows_1253.2.2.2.2.2.2.1
theorem dL_law_30 : decode cL_law 30 = .ok (.bipush 63, 2) := dGR_45_lawrows_1253.2.2.2.2.2.2.2.1
theorem dL_law_32 : decode cL_law 32 = .ok (.iand, 1) := dGR_45_lawrows_1253.2.2.2.2.2.2.2.2.1
theorem dL_law_33 : decode cL_law 33 = .ok (.tableswitch 2017 0 49 #[215, 228, 241, 254, 297, 370, 403, 466, 529, 552, 575, 598, 631, 674, 737, 770, 829, 888, 921, 964, 1007, 1050, 1093, 1136, 1159, 1202, 1245, 1308, 1351, 1374, 1397, 1430, 1463, 1506, 1539, 1582, 1605, 1638, 1671, 1704, 1737, 1770, 1813, 1856, 1909, 1932, 1955, 1978, 1991, 2004], 215) := dGR_45_lawrows_1253.2.2.2.2.2.2.2.2.2.1
theorem dL_law_248 : decode cL_law 248 = .ok (.aload_n 1, 1) := dGR_45_lawrows_1253.2.2.2.2.2.2.2.2.2.2.1
theorem dL_law_249 : decode cL_law 249 = .ok (.invokevirtual 13, 3) := dGR_45_lawrows_1253.2.2.2.2.2.2.2.2.2.2.2
set_option maxRecDepth 100000 in
theorem dGR_45_lawrows_1254 : (decode cL_law 252 = .ok (.pop, 1)) ∧ (decode cL_law 253 = .ok (.aload_n 2, 1)) ∧ (decode cL_law 254 = .ok (.invokevirtual 17, 3)) ∧ (decode cL_law 257 = .ok (.pop, 1)) ∧ (decode cL_law 258 = .ok (.goto 1792, 3)) ∧ (decode cL_law 261 = .ok (.aload_n 1, 1)) ∧ (decode cL_law 262 = .ok (.invokevirtual 18, 3)) ∧ (decode cL_law 265 = .ok (.pop2, 1)) ∧ (decode cL_law 266 = .ok (.aload_n 2, 1)) ∧ (decode cL_law 267 = .ok (.invokevirtual 22, 3)) ∧ (decode cL_law 270 = .ok (.pop2, 1)) ∧ (decode cL_law 271 = .ok (.goto 1779, 3)) := by decide +kernel
theorem dL_law_252 : decode cL_law 252 = .ok (.pop, 1) := dGR_45_lawrows_1254.1
theorem dL_law_253 : decode cL_law 253 = .ok (.aload_n 2, 1) := dGR_45_lawrows_1254.2.1
theorem dL_law_254 : decode cL_law 254 = .ok (.invokevirtual 17, 3) := dGR_45_lawrows_1254.2.2.1
theorem dL_law_257 : decode cL_law 257 = .ok (.pop, 1) := dGR_45_lawrows_1254.2.2.2.1
theorem dL_law_258 : decode cL_law 258 = .ok (.goto 1792, 3) := dGR_45_lawrows_1254.2.2.2.2.1
theorem dL_law_261 : decode cL_law 261 = .ok (.aload_n 1, 1) := dGR_45_lawrows_1254.2.2.2.2.2.1
theorem dL_law_262 : decode cL_law 262 = .ok (.invokevirtual 18, 3) := dGR_45_lawrows_1254.2.2.2.2.2.2.1
theorem dL_law_265 : decode cL_law 265 = .ok (.pop2, 1) := dGR_45_lawrows_1254.2.2.2.2.2.2.2.1
theorem dL_law_266 : decode cL_law 266 = .ok (.aload_n 2, 1) := dGR_45_lawrows_1254.2.2.2.2.2.2.2.2.1
theorem dL_law_267 : decode cL_law 267 = .ok (.invokevirtual 22, 3) := dGR_45_lawrows_1254.2.2.2.2.2.2.2.2.2.1
theorem dL_law_270 : decode cL_law 270 = .ok (.pop2, 1) := dGR_45_lawrows_1254.2.2.2.2.2.2.2.2.2.2.1
theorem dL_law_271 : decode cL_law 271 = .ok (.goto 1779, 3) := dGR_45_lawrows_1254.2.2.2.2.2.2.2.2.2.2.2
set_option maxRecDepth 100000 in
theorem dGR_45_lawrows_1255 : (decode cL_law 274 = .ok (.aload_n 1, 1)) ∧ (decode cL_law 275 = .ok (.invokevirtual 23, 3)) ∧ (decode cL_law 278 = .ok (.pop2, 1)) ∧ (decode cL_law 279 = .ok (.aload_n 2, 1)) ∧ (decode cL_law 280 = .ok (.invokevirtual 26, 3)) ∧ (decode cL_law 283 = .ok (.pop2, 1)) ∧ (decode cL_law 284 = .ok (.goto 1766, 3)) ∧ (decode cL_law 287 = .ok (.aload_n 1, 1)) ∧ (decode cL_law 288 = .ok (.aload_n 0, 1)) ∧ (decode cL_law 289 = .ok (.iload_n 3, 1)) ∧ (decode cL_law 290 = .ok (.iconst 1, 1)) ∧ (decode cL_law 291 = .ok (.iadd, 1)) := by decide +kernel
theorem dL_law_274 : decode cL_law 274 = .ok (.aload_n 1, 1) := dGR_45_lawrows_1255.1
theorem dL_law_275 : decode cL_law 275 = .ok (.invokevirtual 23, 3) := dGR_45_lawrows_1255.2.1
theorem dL_law_278 : decode cL_law 278 = .ok (.pop2, 1) := dGR_45_lawrows_1255.2.2.1
theorem dL_law_279 : decode cL_law 279 = .ok (.aload_n 2, 1) := dGR_45_lawrows_1255.2.2.2.1
theorem dL_law_280 : decode cL_law 280 = .ok (.invokevirtual 26, 3) := dGR_45_lawrows_1255.2.2.2.2.1
theorem dL_law_283 : decode cL_law 283 = .ok (.pop2, 1) := dGR_45_lawrows_1255.2.2.2.2.2.1
theorem dL_law_284 : decode cL_law 284 = .ok (.goto 1766, 3) := dGR_45_lawrows_1255.2.2.2.2.2.2.1
theorem dL_law_287 : decode cL_law 287 = .ok (.aload_n 1, 1) := dGR_45_lawrows_1255.2.2.2.2.2.2.2.1
theorem dL_law_288 : decode cL_law 288 = .ok (.aload_n 0, 1) := dGR_45_lawrows_1255.2.2.2.2.2.2.2.2.1
theorem dL_law_289 : decode cL_law 289 = .ok (.iload_n 3, 1) := dGR_45_lawrows_1255.2.2.2.2.2.2.2.2.2.1
theorem dL_law_290 : decode cL_law 290 = .ok (.iconst 1, 1) := dGR_45_lawrows_1255.2.2.2.2.2.2.2.2.2.2.1
theorem dL_law_291 : decode cL_law 291 = .ok (.iadd, 1) := dGR_45_lawrows_1255.2.2.2.2.2.2.2.2.2.2.2
set_option maxRecDepth 100000 in
theorem dGR_45_lawrows_1256 : (decode cL_law 292 = .ok (.iaload, 1)) ∧ (decode cL_law 293 = .ok (.aload_n 0, 1)) ∧ (decode cL_law 294 = .ok (.iload_n 3, 1)) ∧ (decode cL_law 295 = .ok (.iconst 2, 1)) ∧ (decode cL_law 296 = .ok (.iadd, 1)) ∧ (decode cL_law 297 = .ok (.iaload, 1)) ∧ (decode cL_law 298 = .ok (.aload_n 0, 1)) ∧ (decode cL_law 299 = .ok (.iload_n 3, 1)) ∧ (decode cL_law 300 = .ok (.iconst 3, 1)) ∧ (decode cL_law 301 = .ok (.iadd, 1)) ∧ (decode cL_law 302 = .ok (.iaload, 1)) ∧ (decode cL_law 303 = .ok (.invokevirtual 27, 3)) := by decide +kernel
theorem dL_law_292 : decode cL_law 292 = .ok (.iaload, 1) := dGR_45_lawrows_1256.1
theorem dL_law_293 : decode cL_law 293 = .ok (.aload_n 0, 1) := dGR_45_lawrows_1256.2.1
theorem dL_law_294 : decode cL_law 294 = .ok (.iload_n 3, 1) := dGR_45_lawrows_1256.2.2.1
theorem dL_law_295 : decode cL_law 295 = .ok (.iconst 2, 1) := dGR_45_lawrows_1256.2.2.2.1
theorem dL_law_296 : decode cL_law 296 = .ok (.iadd, 1) := dGR_45_lawrows_1256.2.2.2.2.1
theorem dL_law_297 : decode cL_law 297 = .ok (.iaload, 1) := dGR_45_lawrows_1256.2.2.2.2.2.1
theorem dL_law_298 : decode cL_law 298 = .ok (.aload_n 0, 1) := dGR_45_lawrows_1256.2.2.2.2.2.2.1
theorem dL_law_299 : decode cL_law 299 = .ok (.iload_n 3, 1) := dGR_45_lawrows_1256.2.2.2.2.2.2.2.1
theorem dL_law_300 : decode cL_law 300 = .ok (.iconst 3, 1) := dGR_45_lawrows_1256.2.2.2.2.2.2.2.2.1
theorem dL_law_301 : decode cL_law 301 = .ok (.iadd, 1) := dGR_45_lawrows_1256.2.2.2.2.2.2.2.2.2.1
theorem dL_law_302 : decode cL_law 302 = .ok (.iaload, 1) := dGR_45_lawrows_1256.2.2.2.2.2.2.2.2.2.2.1
theorem dL_law_303 : decode cL_law 303 = .ok (.invokevirtual 27, 3) := dGR_45_lawrows_1256.2.2.2.2.2.2.2.2.2.2.2
set_option maxRecDepth 100000 in
theorem dGR_45_lawrows_1257 : (decode cL_law 306 = .ok (.pop, 1)) ∧ (decode cL_law 307 = .ok (.aload_n 2, 1)) ∧ (decode cL_law 308 = .ok (.aload_n 0, 1)) ∧ (decode cL_law 309 = .ok (.iload_n 3, 1)) ∧ (decode cL_law 310 = .ok (.iconst 1, 1)) ∧ (decode cL_law 311 = .ok (.iadd, 1)) ∧ (decode cL_law 312 = .ok (.iaload, 1)) ∧ (decode cL_law 313 = .ok (.aload_n 0, 1)) ∧ (decode cL_law 314 = .ok (.iload_n 3, 1)) ∧ (decode cL_law 315 = .ok (.iconst 2, 1)) ∧ (decode cL_law 316 = .ok (.iadd, 1)) ∧ (decode cL_law 317 = .ok (.iaload, 1)) := by decide +kernel
theorem dL_law_306 : decode cL_law 306 = .ok (.pop, 1) := dGR_45_lawrows_1257.1
theorem dL_law_307 : decode cL_law 307 = .ok (.aload_n 2, 1) := dGR_45_lawrows_1257.2.1
theorem dL_law_308 : decode cL_law 308 = .ok (.aload_n 0, 1) := dGR_45_lawrows_1257.2.2.1
theorem dL_law_309 : decode cL_law 309 = .ok (.iload_n 3, 1) := dGR_45_lawrows_1257.2.2.2.1
theorem dL_law_310 : decode cL_law 310 = .ok (.iconst 1, 1) := dGR_45_lawrows_1257.2.2.2.2.1
theorem dL_law_311 : decode cL_law 311 = .ok (.iadd, 1) := dGR_45_lawrows_1257.2.2.2.2.2.1
theorem dL_law_312 : decode cL_law 312 = .ok (.iaload, 1) := dGR_45_lawrows_1257.2.2.2.2.2.2.1
theorem dL_law_313 : decode cL_law 313 = .ok (.aload_n 0, 1) := dGR_45_lawrows_1257.2.2.2.2.2.2.2.1
theorem dL_law_314 : decode cL_law 314 = .ok (.iload_n 3, 1) := dGR_45_lawrows_1257.2.2.2.2.2.2.2.2.1
theorem dL_law_315 : decode cL_law 315 = .ok (.iconst 2, 1) := dGR_45_lawrows_1257.2.2.2.2.2.2.2.2.2.1
theorem dL_law_316 : decode cL_law 316 = .ok (.iadd, 1) := dGR_45_lawrows_1257.2.2.2.2.2.2.2.2.2.2.1
theorem dL_law_317 : decode cL_law 317 = .ok (.iaload, 1) := dGR_45_lawrows_1257.2.2.2.2.2.2.2.2.2.2.2
set_option maxRecDepth 100000 in
theorem dGR_45_lawrows_1258 : (decode cL_law 318 = .ok (.aload_n 0, 1)) ∧ (decode cL_law 319 = .ok (.iload_n 3, 1)) ∧ (decode cL_law 320 = .ok (.iconst 3, 1)) ∧ (decode cL_law 321 = .ok (.iadd, 1)) ∧ (decode cL_law 322 = .ok (.iaload, 1)) ∧ (decode cL_law 323 = .ok (.invokevirtual 31, 3)) ∧ (decode cL_law 326 = .ok (.pop, 1)) ∧ (decode cL_law 327 = .ok (.goto 1723, 3)) ∧ (decode cL_law 330 = .ok (.aload_n 1, 1)) ∧ (decode cL_law 331 = .ok (.aload_n 0, 1)) ∧ (decode cL_law 332 = .ok (.iload_n 3, 1)) ∧ (decode cL_law 333 = .ok (.iconst 1, 1)) := by decide +kernel
theorem dL_law_318 : decode cL_law 318 = .ok (.aload_n 0, 1) := dGR_45_lawrows_1258.1
theorem dL_law_319 : decode cL_law 319 = .ok (.iload_n 3, 1) := dGR_45_lawrows_1258.2.1
theorem dL_law_320 : decode cL_law 320 = .ok (.iconst 3, 1) := dGR_45_lawrows_1258.2.2.1
theorem dL_law_321 : decode cL_law 321 = .ok (.iadd, 1) := dGR_45_lawrows_1258.2.2.2.1
theorem dL_law_322 : decode cL_law 322 = .ok (.iaload, 1) := dGR_45_lawrows_1258.2.2.2.2.1
theorem dL_law_323 : decode cL_law 323 = .ok (.invokevirtual 31, 3) := dGR_45_lawrows_1258.2.2.2.2.2.1
theorem dL_law_326 : decode cL_law 326 = .ok (.pop, 1) := dGR_45_lawrows_1258.2.2.2.2.2.2.1
theorem dL_law_327 : decode cL_law 327 = .ok (.goto 1723, 3) := dGR_45_lawrows_1258.2.2.2.2.2.2.2.1
theorem dL_law_330 : decode cL_law 330 = .ok (.aload_n 1, 1) := dGR_45_lawrows_1258.2.2.2.2.2.2.2.2.1
theorem dL_law_331 : decode cL_law 331 = .ok (.aload_n 0, 1) := dGR_45_lawrows_1258.2.2.2.2.2.2.2.2.2.1
theorem dL_law_332 : decode cL_law 332 = .ok (.iload_n 3, 1) := dGR_45_lawrows_1258.2.2.2.2.2.2.2.2.2.2.1
theorem dL_law_333 : decode cL_law 333 = .ok (.iconst 1, 1) := dGR_45_lawrows_1258.2.2.2.2.2.2.2.2.2.2.2
set_option maxRecDepth 100000 in
theorem dGR_45_lawrows_1259 : (decode cL_law 334 = .ok (.iadd, 1)) ∧ (decode cL_law 335 = .ok (.iaload, 1)) ∧ (decode cL_law 336 = .ok (.aload_n 0, 1)) ∧ (decode cL_law 337 = .ok (.iload_n 3, 1)) ∧ (decode cL_law 338 = .ok (.iconst 2, 1)) ∧ (decode cL_law 339 = .ok (.iadd, 1)) ∧ (decode cL_law 340 = .ok (.iaload, 1)) ∧ (decode cL_law 341 = .ok (.aload_n 0, 1)) ∧ (decode cL_law 342 = .ok (.iload_n 3, 1)) ∧ (decode cL_law 343 = .ok (.iconst 3, 1)) ∧ (decode cL_law 344 = .ok (.iadd, 1)) ∧ (decode cL_law 345 = .ok (.iaload, 1)) := by decide +kernel
theorem dL_law_334 : decode cL_law 334 = .ok (.iadd, 1) := dGR_45_lawrows_1259.1
theorem dL_law_335 : decode cL_law 335 = .ok (.iaload, 1) := dGR_45_lawrows_1259.2.1
theorem dL_law_336 : decode cL_law 336 = .ok (.aload_n 0, 1) := dGR_45_lawrows_1259.2.2.1
theorem dL_law_337 : decode cL_law 337 = .ok (.iload_n 3, 1) := dGR_45_lawrows_1259.2.2.2.1
theorem dL_law_338 : decode cL_law 338 = .ok (.iconst 2, 1) := dGR_45_lawrows_1259.2.2.2.2.1
theorem dL_law_339 : decode cL_law 339 = .ok (.iadd, 1) := dGR_45_lawrows_1259.2.2.2.2.2.1
theorem dL_law_340 : decode cL_law 340 = .ok (.iaload, 1) := dGR_45_lawrows_1259.2.2.2.2.2.2.1
theorem dL_law_341 : decode cL_law 341 = .ok (.aload_n 0, 1) := dGR_45_lawrows_1259.2.2.2.2.2.2.2.1
theorem dL_law_342 : decode cL_law 342 = .ok (.iload_n 3, 1) := dGR_45_lawrows_1259.2.2.2.2.2.2.2.2.1
theorem dL_law_343 : decode cL_law 343 = .ok (.iconst 3, 1) := dGR_45_lawrows_1259.2.2.2.2.2.2.2.2.2.1
theorem dL_law_344 : decode cL_law 344 = .ok (.iadd, 1) := dGR_45_lawrows_1259.2.2.2.2.2.2.2.2.2.2.1
theorem dL_law_345 : decode cL_law 345 = .ok (.iaload, 1) := dGR_45_lawrows_1259.2.2.2.2.2.2.2.2.2.2.2
set_option maxRecDepth 100000 in
theorem dGR_45_lawrows_1260 : (decode cL_law 346 = .ok (.i2l, 1)) ∧ (decode cL_law 347 = .ok (.bipush 32, 2)) ∧ (decode cL_law 349 = .ok (.lshl, 1)) ∧ (decode cL_law 350 = .ok (.aload_n 0, 1)) ∧ (decode cL_law 351 = .ok (.iload_n 3, 1)) ∧ (decode cL_law 352 = .ok (.iconst 4, 1)) ∧ (decode cL_law 353 = .ok (.iadd, 1)) ∧ (decode cL_law 354 = .ok (.iaload, 1)) ∧ (decode cL_law 355 = .ok (.i2l, 1)) ∧ (decode cL_law 356 = .ok (.ldc2_w 32, 3)) ∧ (decode cL_law 359 = .ok (.land, 1)) ∧ (decode cL_law 360 = .ok (.lor, 1)) := by decide +kernel
theorem dL_law_346 : decode cL_law 346 = .ok (.i2l, 1) := dGR_45_lawrows_1260.1
theorem dL_law_347 : decode cL_law 347 = .ok (.bipush 32, 2) := dGR_45_lawrows_1260.2.1
theorem dL_law_349 : decode cL_law 349 = .ok (.lshl, 1) := dGR_45_lawrows_1260.2.2.1
theorem dL_law_350 : decode cL_law 350 = .ok (.aload_n 0, 1) := dGR_45_lawrows_1260.2.2.2.1
theorem dL_law_351 : decode cL_law 351 = .ok (.iload_n 3, 1) := dGR_45_lawrows_1260.2.2.2.2.1
theorem dL_law_352 : decode cL_law 352 = .ok (.iconst 4, 1) := dGR_45_lawrows_1260.2.2.2.2.2.1
theorem dL_law_353 : decode cL_law 353 = .ok (.iadd, 1) := dGR_45_lawrows_1260.2.2.2.2.2.2.1
theorem dL_law_354 : decode cL_law 354 = .ok (.iaload, 1) := dGR_45_lawrows_1260.2.2.2.2.2.2.2.1
theorem dL_law_355 : decode cL_law 355 = .ok (.i2l, 1) := dGR_45_lawrows_1260.2.2.2.2.2.2.2.2.1
theorem dL_law_356 : decode cL_law 356 = .ok (.ldc2_w 32, 3) := dGR_45_lawrows_1260.2.2.2.2.2.2.2.2.2.1
theorem dL_law_359 : decode cL_law 359 = .ok (.land, 1) := dGR_45_lawrows_1260.2.2.2.2.2.2.2.2.2.2.1
theorem dL_law_360 : decode cL_law 360 = .ok (.lor, 1) := dGR_45_lawrows_1260.2.2.2.2.2.2.2.2.2.2.2
set_option maxRecDepth 100000 in
theorem dGR_45_lawrows_1261 : (decode cL_law 361 = .ok (.invokevirtual 34, 3)) ∧ (decode cL_law 364 = .ok (.pop, 1)) ∧ (decode cL_law 365 = .ok (.aload_n 2, 1)) ∧ (decode cL_law 366 = .ok (.aload_n 0, 1)) ∧ (decode cL_law 367 = .ok (.iload_n 3, 1)) ∧ (decode cL_law 368 = .ok (.iconst 1, 1)) ∧ (decode cL_law 369 = .ok (.iadd, 1)) ∧ (decode cL_law 370 = .ok (.iaload, 1)) ∧ (decode cL_law 371 = .ok (.aload_n 0, 1)) ∧ (decode cL_law 372 = .ok (.iload_n 3, 1)) ∧ (decode cL_law 373 = .ok (.iconst 2, 1)) ∧ (decode cL_law 374 = .ok (.iadd, 1)) := by decide +kernel
theorem dL_law_361 : decode cL_law 361 = .ok (.invokevirtual 34, 3) := dGR_45_lawrows_1261.1
theorem dL_law_364 : decode cL_law 364 = .ok (.pop, 1) := dGR_45_lawrows_1261.2.1
theorem dL_law_365 : decode cL_law 365 = .ok (.aload_n 2, 1) := dGR_45_lawrows_1261.2.2.1
theorem dL_law_366 : decode cL_law 366 = .ok (.aload_n 0, 1) := dGR_45_lawrows_1261.2.2.2.1
theorem dL_law_367 : decode cL_law 367 = .ok (.iload_n 3, 1) := dGR_45_lawrows_1261.2.2.2.2.1
theorem dL_law_368 : decode cL_law 368 = .ok (.iconst 1, 1) := dGR_45_lawrows_1261.2.2.2.2.2.1
theorem dL_law_369 : decode cL_law 369 = .ok (.iadd, 1) := dGR_45_lawrows_1261.2.2.2.2.2.2.1
theorem dL_law_370 : decode cL_law 370 = .ok (.iaload, 1) := dGR_45_lawrows_1261.2.2.2.2.2.2.2.1
theorem dL_law_371 : decode cL_law 371 = .ok (.aload_n 0, 1) := dGR_45_lawrows_1261.2.2.2.2.2.2.2.2.1
theorem dL_law_372 : decode cL_law 372 = .ok (.iload_n 3, 1) := dGR_45_lawrows_1261.2.2.2.2.2.2.2.2.2.1
theorem dL_law_373 : decode cL_law 373 = .ok (.iconst 2, 1) := dGR_45_lawrows_1261.2.2.2.2.2.2.2.2.2.2.1
theorem dL_law_374 : decode cL_law 374 = .ok (.iadd, 1) := dGR_45_lawrows_1261.2.2.2.2.2.2.2.2.2.2.2
set_option maxRecDepth 100000 in
theorem dGR_45_lawrows_1262 : (decode cL_law 375 = .ok (.iaload, 1)) ∧ (decode cL_law 376 = .ok (.aload_n 0, 1)) ∧ (decode cL_law 377 = .ok (.iload_n 3, 1)) ∧ (decode cL_law 378 = .ok (.iconst 3, 1)) ∧ (decode cL_law 379 = .ok (.iadd, 1)) ∧ (decode cL_law 380 = .ok (.iaload, 1)) ∧ (decode cL_law 381 = .ok (.i2l, 1)) ∧ (decode cL_law 382 = .ok (.bipush 32, 2)) ∧ (decode cL_law 384 = .ok (.lshl, 1)) ∧ (decode cL_law 385 = .ok (.aload_n 0, 1)) ∧ (decode cL_law 386 = .ok (.iload_n 3, 1)) ∧ (decode cL_law 387 = .ok (.iconst 4, 1)) := by decide +kernel
theorem dL_law_375 : decode cL_law 375 = .ok (.iaload, 1) := dGR_45_lawrows_1262.1
theorem dL_law_376 : decode cL_law 376 = .ok (.aload_n 0, 1) := dGR_45_lawrows_1262.2.1
theorem dL_law_377 : decode cL_law 377 = .ok (.iload_n 3, 1) := dGR_45_lawrows_1262.2.2.1
theorem dL_law_378 : decode cL_law 378 = .ok (.iconst 3, 1) := dGR_45_lawrows_1262.2.2.2.1
theorem dL_law_379 : decode cL_law 379 = .ok (.iadd, 1) := dGR_45_lawrows_1262.2.2.2.2.1
theorem dL_law_380 : decode cL_law 380 = .ok (.iaload, 1) := dGR_45_lawrows_1262.2.2.2.2.2.1
theorem dL_law_381 : decode cL_law 381 = .ok (.i2l, 1) := dGR_45_lawrows_1262.2.2.2.2.2.2.1
theorem dL_law_382 : decode cL_law 382 = .ok (.bipush 32, 2) := dGR_45_lawrows_1262.2.2.2.2.2.2.2.1
theorem dL_law_384 : decode cL_law 384 = .ok (.lshl, 1) := dGR_45_lawrows_1262.2.2.2.2.2.2.2.2.1
theorem dL_law_385 : decode cL_law 385 = .ok (.aload_n 0, 1) := dGR_45_lawrows_1262.2.2.2.2.2.2.2.2.2.1
theorem dL_law_386 : decode cL_law 386 = .ok (.iload_n 3, 1) := dGR_45_lawrows_1262.2.2.2.2.2.2.2.2.2.2.1
theorem dL_law_387 : decode cL_law 387 = .ok (.iconst 4, 1) := dGR_45_lawrows_1262.2.2.2.2.2.2.2.2.2.2.2
set_option maxRecDepth 100000 in
theorem dGR_45_lawrows_1263 : (decode cL_law 388 = .ok (.iadd, 1)) ∧ (decode cL_law 389 = .ok (.iaload, 1)) ∧ (decode cL_law 390 = .ok (.i2l, 1)) ∧ (decode cL_law 391 = .ok (.ldc2_w 32, 3)) ∧ (decode cL_law 394 = .ok (.land, 1)) ∧ (decode cL_law 395 = .ok (.lor, 1)) ∧ (decode cL_law 396 = .ok (.invokevirtual 38, 3)) ∧ (decode cL_law 399 = .ok (.pop, 1)) ∧ (decode cL_law 400 = .ok (.goto 1650, 3)) ∧ (decode cL_law 403 = .ok (.aload_n 1, 1)) ∧ (decode cL_law 404 = .ok (.aload_n 0, 1)) ∧ (decode cL_law 405 = .ok (.iload_n 3, 1)) := by decide +kernel
theorem dL_law_388 : decode cL_law 388 = .ok (.iadd, 1) := dGR_45_lawrows_1263.1
theorem dL_law_389 : decode cL_law 389 = .ok (.iaload, 1) := dGR_45_lawrows_1263.2.1
theorem dL_law_390 : decode cL_law 390 = .ok (.i2l, 1) := dGR_45_lawrows_1263.2.2.1
theorem dL_law_391 : decode cL_law 391 = .ok (.ldc2_w 32, 3) := dGR_45_lawrows_1263.2.2.2.1
theorem dL_law_394 : decode cL_law 394 = .ok (.land, 1) := dGR_45_lawrows_1263.2.2.2.2.1
theorem dL_law_395 : decode cL_law 395 = .ok (.lor, 1) := dGR_45_lawrows_1263.2.2.2.2.2.1
theorem dL_law_396 : decode cL_law 396 = .ok (.invokevirtual 38, 3) := dGR_45_lawrows_1263.2.2.2.2.2.2.1
theorem dL_law_399 : decode cL_law 399 = .ok (.pop, 1) := dGR_45_lawrows_1263.2.2.2.2.2.2.2.1
theorem dL_law_400 : decode cL_law 400 = .ok (.goto 1650, 3) := dGR_45_lawrows_1263.2.2.2.2.2.2.2.2.1
theorem dL_law_403 : decode cL_law 403 = .ok (.aload_n 1, 1) := dGR_45_lawrows_1263.2.2.2.2.2.2.2.2.2.1
theorem dL_law_404 : decode cL_law 404 = .ok (.aload_n 0, 1) := dGR_45_lawrows_1263.2.2.2.2.2.2.2.2.2.2.1
theorem dL_law_405 : decode cL_law 405 = .ok (.iload_n 3, 1) := dGR_45_lawrows_1263.2.2.2.2.2.2.2.2.2.2.2
set_option maxRecDepth 100000 in
theorem dGR_45_lawrows_1264 : (decode cL_law 406 = .ok (.iconst 1, 1)) ∧ (decode cL_law 407 = .ok (.iadd, 1)) ∧ (decode cL_law 408 = .ok (.iaload, 1)) ∧ (decode cL_law 409 = .ok (.aload_n 0, 1)) ∧ (decode cL_law 410 = .ok (.iload_n 3, 1)) ∧ (decode cL_law 411 = .ok (.iconst 2, 1)) ∧ (decode cL_law 412 = .ok (.iadd, 1)) ∧ (decode cL_law 413 = .ok (.iaload, 1)) ∧ (decode cL_law 414 = .ok (.invokevirtual 39, 3)) ∧ (decode cL_law 417 = .ok (.pop2, 1)) ∧ (decode cL_law 418 = .ok (.aload_n 2, 1)) ∧ (decode cL_law 419 = .ok (.aload_n 0, 1)) := by decide +kernel
theorem dL_law_406 : decode cL_law 406 = .ok (.iconst 1, 1) := dGR_45_lawrows_1264.1
theorem dL_law_407 : decode cL_law 407 = .ok (.iadd, 1) := dGR_45_lawrows_1264.2.1
theorem dL_law_408 : decode cL_law 408 = .ok (.iaload, 1) := dGR_45_lawrows_1264.2.2.1
theorem dL_law_409 : decode cL_law 409 = .ok (.aload_n 0, 1) := dGR_45_lawrows_1264.2.2.2.1
theorem dL_law_410 : decode cL_law 410 = .ok (.iload_n 3, 1) := dGR_45_lawrows_1264.2.2.2.2.1
theorem dL_law_411 : decode cL_law 411 = .ok (.iconst 2, 1) := dGR_45_lawrows_1264.2.2.2.2.2.1
theorem dL_law_412 : decode cL_law 412 = .ok (.iadd, 1) := dGR_45_lawrows_1264.2.2.2.2.2.2.1
theorem dL_law_413 : decode cL_law 413 = .ok (.iaload, 1) := dGR_45_lawrows_1264.2.2.2.2.2.2.2.1
theorem dL_law_414 : decode cL_law 414 = .ok (.invokevirtual 39, 3) := dGR_45_lawrows_1264.2.2.2.2.2.2.2.2.1
theorem dL_law_417 : decode cL_law 417 = .ok (.pop2, 1) := dGR_45_lawrows_1264.2.2.2.2.2.2.2.2.2.1
theorem dL_law_418 : decode cL_law 418 = .ok (.aload_n 2, 1) := dGR_45_lawrows_1264.2.2.2.2.2.2.2.2.2.2.1
theorem dL_law_419 : decode cL_law 419 = .ok (.aload_n 0, 1) := dGR_45_lawrows_1264.2.2.2.2.2.2.2.2.2.2.2
set_option maxRecDepth 100000 in
theorem dGR_45_lawrows_1265 : (decode cL_law 420 = .ok (.iload_n 3, 1)) ∧ (decode cL_law 421 = .ok (.iconst 1, 1)) ∧ (decode cL_law 422 = .ok (.iadd, 1)) ∧ (decode cL_law 423 = .ok (.iaload, 1)) ∧ (decode cL_law 424 = .ok (.aload_n 0, 1)) ∧ (decode cL_law 425 = .ok (.iload_n 3, 1)) ∧ (decode cL_law 426 = .ok (.iconst 2, 1)) ∧ (decode cL_law 427 = .ok (.iadd, 1)) ∧ (decode cL_law 428 = .ok (.iaload, 1)) ∧ (decode cL_law 429 = .ok (.invokevirtual 43, 3)) ∧ (decode cL_law 432 = .ok (.pop2, 1)) ∧ (decode cL_law 433 = .ok (.goto 1617, 3)) := by decide +kernel
theorem dL_law_420 : decode cL_law 420 = .ok (.iload_n 3, 1) := dGR_45_lawrows_1265.1
theorem dL_law_421 : decode cL_law 421 = .ok (.iconst 1, 1) := dGR_45_lawrows_1265.2.1
theorem dL_law_422 : decode cL_law 422 = .ok (.iadd, 1) := dGR_45_lawrows_1265.2.2.1
theorem dL_law_423 : decode cL_law 423 = .ok (.iaload, 1) := dGR_45_lawrows_1265.2.2.2.1
theorem dL_law_424 : decode cL_law 424 = .ok (.aload_n 0, 1) := dGR_45_lawrows_1265.2.2.2.2.1
theorem dL_law_425 : decode cL_law 425 = .ok (.iload_n 3, 1) := dGR_45_lawrows_1265.2.2.2.2.2.1
theorem dL_law_426 : decode cL_law 426 = .ok (.iconst 2, 1) := dGR_45_lawrows_1265.2.2.2.2.2.2.1
theorem dL_law_427 : decode cL_law 427 = .ok (.iadd, 1) := dGR_45_lawrows_1265.2.2.2.2.2.2.2.1
theorem dL_law_428 : decode cL_law 428 = .ok (.iaload, 1) := dGR_45_lawrows_1265.2.2.2.2.2.2.2.2.1
theorem dL_law_429 : decode cL_law 429 = .ok (.invokevirtual 43, 3) := dGR_45_lawrows_1265.2.2.2.2.2.2.2.2.2.1
theorem dL_law_432 : decode cL_law 432 = .ok (.pop2, 1) := dGR_45_lawrows_1265.2.2.2.2.2.2.2.2.2.2.1
theorem dL_law_433 : decode cL_law 433 = .ok (.goto 1617, 3) := dGR_45_lawrows_1265.2.2.2.2.2.2.2.2.2.2.2
set_option maxRecDepth 100000 in
theorem dGR_45_lawrows_1266 : (decode cL_law 436 = .ok (.aload_n 1, 1)) ∧ (decode cL_law 437 = .ok (.aload_n 0, 1)) ∧ (decode cL_law 438 = .ok (.iload_n 3, 1)) ∧ (decode cL_law 439 = .ok (.iconst 1, 1)) ∧ (decode cL_law 440 = .ok (.iadd, 1)) ∧ (decode cL_law 441 = .ok (.iaload, 1)) ∧ (decode cL_law 442 = .ok (.aload_n 0, 1)) ∧ (decode cL_law 443 = .ok (.iload_n 3, 1)) ∧ (decode cL_law 444 = .ok (.iconst 2, 1)) ∧ (decode cL_law 445 = .ok (.iadd, 1)) ∧ (decode cL_law 446 = .ok (.iaload, 1)) ∧ (decode cL_law 447 = .ok (.aload_n 0, 1)) := by decide +kernel
theorem dL_law_436 : decode cL_law 436 = .ok (.aload_n 1, 1) := dGR_45_lawrows_1266.1
theorem dL_law_437 : decode cL_law 437 = .ok (.aload_n 0, 1) := dGR_45_lawrows_1266.2.1
theorem dL_law_438 : decode cL_law 438 = .ok (.iload_n 3, 1) := dGR_45_lawrows_1266.2.2.1
theorem dL_law_439 : decode cL_law 439 = .ok (.iconst 1, 1) := dGR_45_lawrows_1266.2.2.2.1
theorem dL_law_440 : decode cL_law 440 = .ok (.iadd, 1) := dGR_45_lawrows_1266.2.2.2.2.1
theorem dL_law_441 : decode cL_law 441 = .ok (.iaload, 1) := dGR_45_lawrows_1266.2.2.2.2.2.1
theorem dL_law_442 : decode cL_law 442 = .ok (.aload_n 0, 1) := dGR_45_lawrows_1266.2.2.2.2.2.2.1
theorem dL_law_443 : decode cL_law 443 = .ok (.iload_n 3, 1) := dGR_45_lawrows_1266.2.2.2.2.2.2.2.1
theorem dL_law_444 : decode cL_law 444 = .ok (.iconst 2, 1) := dGR_45_lawrows_1266.2.2.2.2.2.2.2.2.1
theorem dL_law_445 : decode cL_law 445 = .ok (.iadd, 1) := dGR_45_lawrows_1266.2.2.2.2.2.2.2.2.2.1
theorem dL_law_446 : decode cL_law 446 = .ok (.iaload, 1) := dGR_45_lawrows_1266.2.2.2.2.2.2.2.2.2.2.1
theorem dL_law_447 : decode cL_law 447 = .ok (.aload_n 0, 1) := dGR_45_lawrows_1266.2.2.2.2.2.2.2.2.2.2.2
set_option maxRecDepth 100000 in
theorem dGR_45_lawrows_1267 : (decode cL_law 448 = .ok (.iload_n 3, 1)) ∧ (decode cL_law 449 = .ok (.iconst 3, 1)) ∧ (decode cL_law 450 = .ok (.iadd, 1)) ∧ (decode cL_law 451 = .ok (.iaload, 1)) ∧ (decode cL_law 452 = .ok (.aload_n 0, 1)) ∧ (decode cL_law 453 = .ok (.iload_n 3, 1)) ∧ (decode cL_law 454 = .ok (.iconst 4, 1)) ∧ (decode cL_law 455 = .ok (.iadd, 1)) ∧ (decode cL_law 456 = .ok (.iaload, 1)) ∧ (decode cL_law 457 = .ok (.aload_n 0, 1)) ∧ (decode cL_law 458 = .ok (.iload_n 3, 1)) ∧ (decode cL_law 459 = .ok (.iconst 5, 1)) := by decide +kernel
theorem dL_law_448 : decode cL_law 448 = .ok (.iload_n 3, 1) := dGR_45_lawrows_1267.1
theorem dL_law_449 : decode cL_law 449 = .ok (.iconst 3, 1) := dGR_45_lawrows_1267.2.1
theorem dL_law_450 : decode cL_law 450 = .ok (.iadd, 1) := dGR_45_lawrows_1267.2.2.1
theorem dL_law_451 : decode cL_law 451 = .ok (.iaload, 1) := dGR_45_lawrows_1267.2.2.2.1
theorem dL_law_452 : decode cL_law 452 = .ok (.aload_n 0, 1) := dGR_45_lawrows_1267.2.2.2.2.1
theorem dL_law_453 : decode cL_law 453 = .ok (.iload_n 3, 1) := dGR_45_lawrows_1267.2.2.2.2.2.1
theorem dL_law_454 : decode cL_law 454 = .ok (.iconst 4, 1) := dGR_45_lawrows_1267.2.2.2.2.2.2.1
theorem dL_law_455 : decode cL_law 455 = .ok (.iadd, 1) := dGR_45_lawrows_1267.2.2.2.2.2.2.2.1
theorem dL_law_456 : decode cL_law 456 = .ok (.iaload, 1) := dGR_45_lawrows_1267.2.2.2.2.2.2.2.2.1
theorem dL_law_457 : decode cL_law 457 = .ok (.aload_n 0, 1) := dGR_45_lawrows_1267.2.2.2.2.2.2.2.2.2.1
theorem dL_law_458 : decode cL_law 458 = .ok (.iload_n 3, 1) := dGR_45_lawrows_1267.2.2.2.2.2.2.2.2.2.2.1
theorem dL_law_459 : decode cL_law 459 = .ok (.iconst 5, 1) := dGR_45_lawrows_1267.2.2.2.2.2.2.2.2.2.2.2
set_option maxRecDepth 100000 in
theorem dGR_45_lawrows_1268 : (decode cL_law 460 = .ok (.iadd, 1)) ∧ (decode cL_law 461 = .ok (.iaload, 1)) ∧ (decode cL_law 462 = .ok (.invokevirtual 44, 3)) ∧ (decode cL_law 465 = .ok (.pop, 1)) ∧ (decode cL_law 466 = .ok (.aload_n 2, 1)) ∧ (decode cL_law 467 = .ok (.aload_n 0, 1)) ∧ (decode cL_law 468 = .ok (.iload_n 3, 1)) ∧ (decode cL_law 469 = .ok (.iconst 1, 1)) ∧ (decode cL_law 470 = .ok (.iadd, 1)) ∧ (decode cL_law 471 = .ok (.iaload, 1)) ∧ (decode cL_law 472 = .ok (.aload_n 0, 1)) ∧ (decode cL_law 473 = .ok (.iload_n 3, 1)) := by decide +kernel
theorem dL_law_460 : decode cL_law 460 = .ok (.iadd, 1) := dGR_45_lawrows_1268.1
theorem dL_law_461 : decode cL_law 461 = .ok (.iaload, 1) := dGR_45_lawrows_1268.2.1
theorem dL_law_462 : decode cL_law 462 = .ok (.invokevirtual 44, 3) := dGR_45_lawrows_1268.2.2.1
theorem dL_law_465 : decode cL_law 465 = .ok (.pop, 1) := dGR_45_lawrows_1268.2.2.2.1
theorem dL_law_466 : decode cL_law 466 = .ok (.aload_n 2, 1) := dGR_45_lawrows_1268.2.2.2.2.1
theorem dL_law_467 : decode cL_law 467 = .ok (.aload_n 0, 1) := dGR_45_lawrows_1268.2.2.2.2.2.1
theorem dL_law_468 : decode cL_law 468 = .ok (.iload_n 3, 1) := dGR_45_lawrows_1268.2.2.2.2.2.2.1
theorem dL_law_469 : decode cL_law 469 = .ok (.iconst 1, 1) := dGR_45_lawrows_1268.2.2.2.2.2.2.2.1
theorem dL_law_470 : decode cL_law 470 = .ok (.iadd, 1) := dGR_45_lawrows_1268.2.2.2.2.2.2.2.2.1
theorem dL_law_471 : decode cL_law 471 = .ok (.iaload, 1) := dGR_45_lawrows_1268.2.2.2.2.2.2.2.2.2.1
theorem dL_law_472 : decode cL_law 472 = .ok (.aload_n 0, 1) := dGR_45_lawrows_1268.2.2.2.2.2.2.2.2.2.2.1
theorem dL_law_473 : decode cL_law 473 = .ok (.iload_n 3, 1) := dGR_45_lawrows_1268.2.2.2.2.2.2.2.2.2.2.2
set_option maxRecDepth 100000 in
theorem dGR_45_lawrows_1269 : (decode cL_law 474 = .ok (.iconst 2, 1)) ∧ (decode cL_law 475 = .ok (.iadd, 1)) ∧ (decode cL_law 476 = .ok (.iaload, 1)) ∧ (decode cL_law 477 = .ok (.aload_n 0, 1)) ∧ (decode cL_law 478 = .ok (.iload_n 3, 1)) ∧ (decode cL_law 479 = .ok (.iconst 3, 1)) ∧ (decode cL_law 480 = .ok (.iadd, 1)) ∧ (decode cL_law 481 = .ok (.iaload, 1)) ∧ (decode cL_law 482 = .ok (.aload_n 0, 1)) ∧ (decode cL_law 483 = .ok (.iload_n 3, 1)) ∧ (decode cL_law 484 = .ok (.iconst 4, 1)) ∧ (decode cL_law 485 = .ok (.iadd, 1)) := by decide +kernel
theorem dL_law_474 : decode cL_law 474 = .ok (.iconst 2, 1) := dGR_45_lawrows_1269.1
theorem dL_law_475 : decode cL_law 475 = .ok (.iadd, 1) := dGR_45_lawrows_1269.2.1
theorem dL_law_476 : decode cL_law 476 = .ok (.iaload, 1) := dGR_45_lawrows_1269.2.2.1
theorem dL_law_477 : decode cL_law 477 = .ok (.aload_n 0, 1) := dGR_45_lawrows_1269.2.2.2.1
theorem dL_law_478 : decode cL_law 478 = .ok (.iload_n 3, 1) := dGR_45_lawrows_1269.2.2.2.2.1
theorem dL_law_479 : decode cL_law 479 = .ok (.iconst 3, 1) := dGR_45_lawrows_1269.2.2.2.2.2.1
theorem dL_law_480 : decode cL_law 480 = .ok (.iadd, 1) := dGR_45_lawrows_1269.2.2.2.2.2.2.1
theorem dL_law_481 : decode cL_law 481 = .ok (.iaload, 1) := dGR_45_lawrows_1269.2.2.2.2.2.2.2.1
theorem dL_law_482 : decode cL_law 482 = .ok (.aload_n 0, 1) := dGR_45_lawrows_1269.2.2.2.2.2.2.2.2.1
theorem dL_law_483 : decode cL_law 483 = .ok (.iload_n 3, 1) := dGR_45_lawrows_1269.2.2.2.2.2.2.2.2.2.1
theorem dL_law_484 : decode cL_law 484 = .ok (.iconst 4, 1) := dGR_45_lawrows_1269.2.2.2.2.2.2.2.2.2.2.1
theorem dL_law_485 : decode cL_law 485 = .ok (.iadd, 1) := dGR_45_lawrows_1269.2.2.2.2.2.2.2.2.2.2.2
set_option maxRecDepth 100000 in
theorem dGR_45_lawrows_1270 : (decode cL_law 486 = .ok (.iaload, 1)) ∧ (decode cL_law 487 = .ok (.aload_n 0, 1)) ∧ (decode cL_law 488 = .ok (.iload_n 3, 1)) ∧ (decode cL_law 489 = .ok (.iconst 5, 1)) ∧ (decode cL_law 490 = .ok (.iadd, 1)) ∧ (decode cL_law 491 = .ok (.iaload, 1)) ∧ (decode cL_law 492 = .ok (.invokevirtual 48, 3)) ∧ (decode cL_law 495 = .ok (.pop, 1)) ∧ (decode cL_law 496 = .ok (.goto 1554, 3)) ∧ (decode cL_law 499 = .ok (.aload_n 1, 1)) ∧ (decode cL_law 500 = .ok (.aload_n 0, 1)) ∧ (decode cL_law 501 = .ok (.iload_n 3, 1)) := by decide +kernel
theorem dL_law_486 : decode cL_law 486 = .ok (.iaload, 1) := dGR_45_lawrows_1270.1
theorem dL_law_487 : decode cL_law 487 = .ok (.aload_n 0, 1) := dGR_45_lawrows_1270.2.1
theorem dL_law_488 : decode cL_law 488 = .ok (.iload_n 3, 1) := dGR_45_lawrows_1270.2.2.1
theorem dL_law_489 : decode cL_law 489 = .ok (.iconst 5, 1) := dGR_45_lawrows_1270.2.2.2.1
theorem dL_law_490 : decode cL_law 490 = .ok (.iadd, 1) := dGR_45_lawrows_1270.2.2.2.2.1
theorem dL_law_491 : decode cL_law 491 = .ok (.iaload, 1) := dGR_45_lawrows_1270.2.2.2.2.2.1
theorem dL_law_492 : decode cL_law 492 = .ok (.invokevirtual 48, 3) := dGR_45_lawrows_1270.2.2.2.2.2.2.1
theorem dL_law_495 : decode cL_law 495 = .ok (.pop, 1) := dGR_45_lawrows_1270.2.2.2.2.2.2.2.1
theorem dL_law_496 : decode cL_law 496 = .ok (.goto 1554, 3) := dGR_45_lawrows_1270.2.2.2.2.2.2.2.2.1
theorem dL_law_499 : decode cL_law 499 = .ok (.aload_n 1, 1) := dGR_45_lawrows_1270.2.2.2.2.2.2.2.2.2.1
theorem dL_law_500 : decode cL_law 500 = .ok (.aload_n 0, 1) := dGR_45_lawrows_1270.2.2.2.2.2.2.2.2.2.2.1
theorem dL_law_501 : decode cL_law 501 = .ok (.iload_n 3, 1) := dGR_45_lawrows_1270.2.2.2.2.2.2.2.2.2.2.2
set_option maxRecDepth 100000 in
theorem dGR_45_lawrows_1271 : (decode cL_law 502 = .ok (.iconst 1, 1)) ∧ (decode cL_law 503 = .ok (.iadd, 1)) ∧ (decode cL_law 504 = .ok (.iaload, 1)) ∧ (decode cL_law 505 = .ok (.aload_n 0, 1)) ∧ (decode cL_law 506 = .ok (.iload_n 3, 1)) ∧ (decode cL_law 507 = .ok (.iconst 2, 1)) ∧ (decode cL_law 508 = .ok (.iadd, 1)) ∧ (decode cL_law 509 = .ok (.iaload, 1)) ∧ (decode cL_law 510 = .ok (.aload_n 0, 1)) ∧ (decode cL_law 511 = .ok (.iload_n 3, 1)) ∧ (decode cL_law 512 = .ok (.iconst 3, 1)) ∧ (decode cL_law 513 = .ok (.iadd, 1)) := by decide +kernel
theorem dL_law_502 : decode cL_law 502 = .ok (.iconst 1, 1) := dGR_45_lawrows_1271.1
theorem dL_law_503 : decode cL_law 503 = .ok (.iadd, 1) := dGR_45_lawrows_1271.2.1
theorem dL_law_504 : decode cL_law 504 = .ok (.iaload, 1) := dGR_45_lawrows_1271.2.2.1
theorem dL_law_505 : decode cL_law 505 = .ok (.aload_n 0, 1) := dGR_45_lawrows_1271.2.2.2.1
theorem dL_law_506 : decode cL_law 506 = .ok (.iload_n 3, 1) := dGR_45_lawrows_1271.2.2.2.2.1
theorem dL_law_507 : decode cL_law 507 = .ok (.iconst 2, 1) := dGR_45_lawrows_1271.2.2.2.2.2.1
theorem dL_law_508 : decode cL_law 508 = .ok (.iadd, 1) := dGR_45_lawrows_1271.2.2.2.2.2.2.1
theorem dL_law_509 : decode cL_law 509 = .ok (.iaload, 1) := dGR_45_lawrows_1271.2.2.2.2.2.2.2.1
theorem dL_law_510 : decode cL_law 510 = .ok (.aload_n 0, 1) := dGR_45_lawrows_1271.2.2.2.2.2.2.2.2.1
theorem dL_law_511 : decode cL_law 511 = .ok (.iload_n 3, 1) := dGR_45_lawrows_1271.2.2.2.2.2.2.2.2.2.1
theorem dL_law_512 : decode cL_law 512 = .ok (.iconst 3, 1) := dGR_45_lawrows_1271.2.2.2.2.2.2.2.2.2.2.1
theorem dL_law_513 : decode cL_law 513 = .ok (.iadd, 1) := dGR_45_lawrows_1271.2.2.2.2.2.2.2.2.2.2.2
set_option maxRecDepth 100000 in
theorem dGR_45_lawrows_1272 : (decode cL_law 514 = .ok (.iaload, 1)) ∧ (decode cL_law 515 = .ok (.aload_n 0, 1)) ∧ (decode cL_law 516 = .ok (.iload_n 3, 1)) ∧ (decode cL_law 517 = .ok (.iconst 4, 1)) ∧ (decode cL_law 518 = .ok (.iadd, 1)) ∧ (decode cL_law 519 = .ok (.iaload, 1)) ∧ (decode cL_law 520 = .ok (.aload_n 0, 1)) ∧ (decode cL_law 521 = .ok (.iload_n 3, 1)) ∧ (decode cL_law 522 = .ok (.iconst 5, 1)) ∧ (decode cL_law 523 = .ok (.iadd, 1)) ∧ (decode cL_law 524 = .ok (.iaload, 1)) ∧ (decode cL_law 525 = .ok (.invokevirtual 49, 3)) := by decide +kernel
theorem dL_law_514 : decode cL_law 514 = .ok (.iaload, 1) := dGR_45_lawrows_1272.1
theorem dL_law_515 : decode cL_law 515 = .ok (.aload_n 0, 1) := dGR_45_lawrows_1272.2.1
theorem dL_law_516 : decode cL_law 516 = .ok (.iload_n 3, 1) := dGR_45_lawrows_1272.2.2.1
theorem dL_law_517 : decode cL_law 517 = .ok (.iconst 4, 1) := dGR_45_lawrows_1272.2.2.2.1
theorem dL_law_518 : decode cL_law 518 = .ok (.iadd, 1) := dGR_45_lawrows_1272.2.2.2.2.1
theorem dL_law_519 : decode cL_law 519 = .ok (.iaload, 1) := dGR_45_lawrows_1272.2.2.2.2.2.1
theorem dL_law_520 : decode cL_law 520 = .ok (.aload_n 0, 1) := dGR_45_lawrows_1272.2.2.2.2.2.2.1
theorem dL_law_521 : decode cL_law 521 = .ok (.iload_n 3, 1) := dGR_45_lawrows_1272.2.2.2.2.2.2.2.1
theorem dL_law_522 : decode cL_law 522 = .ok (.iconst 5, 1) := dGR_45_lawrows_1272.2.2.2.2.2.2.2.2.1
theorem dL_law_523 : decode cL_law 523 = .ok (.iadd, 1) := dGR_45_lawrows_1272.2.2.2.2.2.2.2.2.2.1
theorem dL_law_524 : decode cL_law 524 = .ok (.iaload, 1) := dGR_45_lawrows_1272.2.2.2.2.2.2.2.2.2.2.1
theorem dL_law_525 : decode cL_law 525 = .ok (.invokevirtual 49, 3) := dGR_45_lawrows_1272.2.2.2.2.2.2.2.2.2.2.2
set_option maxRecDepth 100000 in
theorem dGR_45_lawrows_1273 : (decode cL_law 528 = .ok (.pop, 1)) ∧ (decode cL_law 529 = .ok (.aload_n 2, 1)) ∧ (decode cL_law 530 = .ok (.aload_n 0, 1)) ∧ (decode cL_law 531 = .ok (.iload_n 3, 1)) ∧ (decode cL_law 532 = .ok (.iconst 1, 1)) ∧ (decode cL_law 533 = .ok (.iadd, 1)) ∧ (decode cL_law 534 = .ok (.iaload, 1)) ∧ (decode cL_law 535 = .ok (.aload_n 0, 1)) ∧ (decode cL_law 536 = .ok (.iload_n 3, 1)) ∧ (decode cL_law 537 = .ok (.iconst 2, 1)) ∧ (decode cL_law 538 = .ok (.iadd, 1)) ∧ (decode cL_law 539 = .ok (.iaload, 1)) := by decide +kernel
theorem dL_law_528 : decode cL_law 528 = .ok (.pop, 1) := dGR_45_lawrows_1273.1
theorem dL_law_529 : decode cL_law 529 = .ok (.aload_n 2, 1) := dGR_45_lawrows_1273.2.1
theorem dL_law_530 : decode cL_law 530 = .ok (.aload_n 0, 1) := dGR_45_lawrows_1273.2.2.1
theorem dL_law_531 : decode cL_law 531 = .ok (.iload_n 3, 1) := dGR_45_lawrows_1273.2.2.2.1
theorem dL_law_532 : decode cL_law 532 = .ok (.iconst 1, 1) := dGR_45_lawrows_1273.2.2.2.2.1
theorem dL_law_533 : decode cL_law 533 = .ok (.iadd, 1) := dGR_45_lawrows_1273.2.2.2.2.2.1
theorem dL_law_534 : decode cL_law 534 = .ok (.iaload, 1) := dGR_45_lawrows_1273.2.2.2.2.2.2.1
theorem dL_law_535 : decode cL_law 535 = .ok (.aload_n 0, 1) := dGR_45_lawrows_1273.2.2.2.2.2.2.2.1
theorem dL_law_536 : decode cL_law 536 = .ok (.iload_n 3, 1) := dGR_45_lawrows_1273.2.2.2.2.2.2.2.2.1
theorem dL_law_537 : decode cL_law 537 = .ok (.iconst 2, 1) := dGR_45_lawrows_1273.2.2.2.2.2.2.2.2.2.1
theorem dL_law_538 : decode cL_law 538 = .ok (.iadd, 1) := dGR_45_lawrows_1273.2.2.2.2.2.2.2.2.2.2.1
theorem dL_law_539 : decode cL_law 539 = .ok (.iaload, 1) := dGR_45_lawrows_1273.2.2.2.2.2.2.2.2.2.2.2
set_option maxRecDepth 100000 in
theorem dGR_45_lawrows_1274 : (decode cL_law 540 = .ok (.aload_n 0, 1)) ∧ (decode cL_law 541 = .ok (.iload_n 3, 1)) ∧ (decode cL_law 542 = .ok (.iconst 3, 1)) ∧ (decode cL_law 543 = .ok (.iadd, 1)) ∧ (decode cL_law 544 = .ok (.iaload, 1)) ∧ (decode cL_law 545 = .ok (.aload_n 0, 1)) ∧ (decode cL_law 546 = .ok (.iload_n 3, 1)) ∧ (decode cL_law 547 = .ok (.iconst 4, 1)) ∧ (decode cL_law 548 = .ok (.iadd, 1)) ∧ (decode cL_law 549 = .ok (.iaload, 1)) ∧ (decode cL_law 550 = .ok (.aload_n 0, 1)) ∧ (decode cL_law 551 = .ok (.iload_n 3, 1)) := by decide +kernel
theorem dL_law_540 : decode cL_law 540 = .ok (.aload_n 0, 1) := dGR_45_lawrows_1274.1
theorem dL_law_541 : decode cL_law 541 = .ok (.iload_n 3, 1) := dGR_45_lawrows_1274.2.1
theorem dL_law_542 : decode cL_law 542 = .ok (.iconst 3, 1) := dGR_45_lawrows_1274.2.2.1
theorem dL_law_543 : decode cL_law 543 = .ok (.iadd, 1) := dGR_45_lawrows_1274.2.2.2.1
theorem dL_law_544 : decode cL_law 544 = .ok (.iaload, 1) := dGR_45_lawrows_1274.2.2.2.2.1
theorem dL_law_545 : decode cL_law 545 = .ok (.aload_n 0, 1) := dGR_45_lawrows_1274.2.2.2.2.2.1
theorem dL_law_546 : decode cL_law 546 = .ok (.iload_n 3, 1) := dGR_45_lawrows_1274.2.2.2.2.2.2.1
theorem dL_law_547 : decode cL_law 547 = .ok (.iconst 4, 1) := dGR_45_lawrows_1274.2.2.2.2.2.2.2.1
theorem dL_law_548 : decode cL_law 548 = .ok (.iadd, 1) := dGR_45_lawrows_1274.2.2.2.2.2.2.2.2.1
theorem dL_law_549 : decode cL_law 549 = .ok (.iaload, 1) := dGR_45_lawrows_1274.2.2.2.2.2.2.2.2.2.1
theorem dL_law_550 : decode cL_law 550 = .ok (.aload_n 0, 1) := dGR_45_lawrows_1274.2.2.2.2.2.2.2.2.2.2.1
theorem dL_law_551 : decode cL_law 551 = .ok (.iload_n 3, 1) := dGR_45_lawrows_1274.2.2.2.2.2.2.2.2.2.2.2
set_option maxRecDepth 100000 in
theorem dGR_45_lawrows_1275 : (decode cL_law 552 = .ok (.iconst 5, 1)) ∧ (decode cL_law 553 = .ok (.iadd, 1)) ∧ (decode cL_law 554 = .ok (.iaload, 1)) ∧ (decode cL_law 555 = .ok (.invokevirtual 53, 3)) ∧ (decode cL_law 558 = .ok (.pop, 1)) ∧ (decode cL_law 559 = .ok (.goto 1491, 3)) ∧ (decode cL_law 562 = .ok (.aload_n 1, 1)) ∧ (decode cL_law 563 = .ok (.aload_n 0, 1)) ∧ (decode cL_law 564 = .ok (.iload_n 3, 1)) ∧ (decode cL_law 565 = .ok (.iconst 1, 1)) ∧ (decode cL_law 566 = .ok (.iadd, 1)) ∧ (decode cL_law 567 = .ok (.iaload, 1)) := by decide +kernel
theorem dL_law_552 : decode cL_law 552 = .ok (.iconst 5, 1) := dGR_45_lawrows_1275.1
theorem dL_law_553 : decode cL_law 553 = .ok (.iadd, 1) := dGR_45_lawrows_1275.2.1
theorem dL_law_554 : decode cL_law 554 = .ok (.iaload, 1) := dGR_45_lawrows_1275.2.2.1
theorem dL_law_555 : decode cL_law 555 = .ok (.invokevirtual 53, 3) := dGR_45_lawrows_1275.2.2.2.1
theorem dL_law_558 : decode cL_law 558 = .ok (.pop, 1) := dGR_45_lawrows_1275.2.2.2.2.1
theorem dL_law_559 : decode cL_law 559 = .ok (.goto 1491, 3) := dGR_45_lawrows_1275.2.2.2.2.2.1
theorem dL_law_562 : decode cL_law 562 = .ok (.aload_n 1, 1) := dGR_45_lawrows_1275.2.2.2.2.2.2.1
theorem dL_law_563 : decode cL_law 563 = .ok (.aload_n 0, 1) := dGR_45_lawrows_1275.2.2.2.2.2.2.2.1
theorem dL_law_564 : decode cL_law 564 = .ok (.iload_n 3, 1) := dGR_45_lawrows_1275.2.2.2.2.2.2.2.2.1
theorem dL_law_565 : decode cL_law 565 = .ok (.iconst 1, 1) := dGR_45_lawrows_1275.2.2.2.2.2.2.2.2.2.1
theorem dL_law_566 : decode cL_law 566 = .ok (.iadd, 1) := dGR_45_lawrows_1275.2.2.2.2.2.2.2.2.2.2.1
theorem dL_law_567 : decode cL_law 567 = .ok (.iaload, 1) := dGR_45_lawrows_1275.2.2.2.2.2.2.2.2.2.2.2
set_option maxRecDepth 100000 in
theorem dGR_45_lawrows_1276 : (decode cL_law 568 = .ok (.invokevirtual 54, 3)) ∧ (decode cL_law 571 = .ok (.pop, 1)) ∧ (decode cL_law 572 = .ok (.aload_n 2, 1)) ∧ (decode cL_law 573 = .ok (.aload_n 0, 1)) ∧ (decode cL_law 574 = .ok (.iload_n 3, 1)) ∧ (decode cL_law 575 = .ok (.iconst 1, 1)) ∧ (decode cL_law 576 = .ok (.iadd, 1)) ∧ (decode cL_law 577 = .ok (.iaload, 1)) ∧ (decode cL_law 578 = .ok (.invokevirtual 58, 3)) ∧ (decode cL_law 581 = .ok (.pop, 1)) ∧ (decode cL_law 582 = .ok (.goto 1468, 3)) ∧ (decode cL_law 585 = .ok (.aload_n 1, 1)) := by decide +kernel
theorem dL_law_568 : decode cL_law 568 = .ok (.invokevirtual 54, 3) := dGR_45_lawrows_1276.1
theorem dL_law_571 : decode cL_law 571 = .ok (.pop, 1) := dGR_45_lawrows_1276.2.1
theorem dL_law_572 : decode cL_law 572 = .ok (.aload_n 2, 1) := dGR_45_lawrows_1276.2.2.1
theorem dL_law_573 : decode cL_law 573 = .ok (.aload_n 0, 1) := dGR_45_lawrows_1276.2.2.2.1
theorem dL_law_574 : decode cL_law 574 = .ok (.iload_n 3, 1) := dGR_45_lawrows_1276.2.2.2.2.1
theorem dL_law_575 : decode cL_law 575 = .ok (.iconst 1, 1) := dGR_45_lawrows_1276.2.2.2.2.2.1
theorem dL_law_576 : decode cL_law 576 = .ok (.iadd, 1) := dGR_45_lawrows_1276.2.2.2.2.2.2.1
theorem dL_law_577 : decode cL_law 577 = .ok (.iaload, 1) := dGR_45_lawrows_1276.2.2.2.2.2.2.2.1
theorem dL_law_578 : decode cL_law 578 = .ok (.invokevirtual 58, 3) := dGR_45_lawrows_1276.2.2.2.2.2.2.2.2.1
theorem dL_law_581 : decode cL_law 581 = .ok (.pop, 1) := dGR_45_lawrows_1276.2.2.2.2.2.2.2.2.2.1
theorem dL_law_582 : decode cL_law 582 = .ok (.goto 1468, 3) := dGR_45_lawrows_1276.2.2.2.2.2.2.2.2.2.2.1
theorem dL_law_585 : decode cL_law 585 = .ok (.aload_n 1, 1) := dGR_45_lawrows_1276.2.2.2.2.2.2.2.2.2.2.2
set_option maxRecDepth 100000 in
theorem dGR_45_lawrows_1277 : (decode cL_law 586 = .ok (.aload_n 0, 1)) ∧ (decode cL_law 587 = .ok (.iload_n 3, 1)) ∧ (decode cL_law 588 = .ok (.iconst 1, 1)) ∧ (decode cL_law 589 = .ok (.iadd, 1)) ∧ (decode cL_law 590 = .ok (.iaload, 1)) ∧ (decode cL_law 591 = .ok (.invokevirtual 59, 3)) ∧ (decode cL_law 594 = .ok (.pop, 1)) ∧ (decode cL_law 595 = .ok (.aload_n 2, 1)) ∧ (decode cL_law 596 = .ok (.aload_n 0, 1)) ∧ (decode cL_law 597 = .ok (.iload_n 3, 1)) ∧ (decode cL_law 598 = .ok (.iconst 1, 1)) ∧ (decode cL_law 599 = .ok (.iadd, 1)) := by decide +kernel
theorem dL_law_586 : decode cL_law 586 = .ok (.aload_n 0, 1) := dGR_45_lawrows_1277.1
theorem dL_law_587 : decode cL_law 587 = .ok (.iload_n 3, 1) := dGR_45_lawrows_1277.2.1
theorem dL_law_588 : decode cL_law 588 = .ok (.iconst 1, 1) := dGR_45_lawrows_1277.2.2.1
theorem dL_law_589 : decode cL_law 589 = .ok (.iadd, 1) := dGR_45_lawrows_1277.2.2.2.1
theorem dL_law_590 : decode cL_law 590 = .ok (.iaload, 1) := dGR_45_lawrows_1277.2.2.2.2.1
theorem dL_law_591 : decode cL_law 591 = .ok (.invokevirtual 59, 3) := dGR_45_lawrows_1277.2.2.2.2.2.1
theorem dL_law_594 : decode cL_law 594 = .ok (.pop, 1) := dGR_45_lawrows_1277.2.2.2.2.2.2.1
theorem dL_law_595 : decode cL_law 595 = .ok (.aload_n 2, 1) := dGR_45_lawrows_1277.2.2.2.2.2.2.2.1
theorem dL_law_596 : decode cL_law 596 = .ok (.aload_n 0, 1) := dGR_45_lawrows_1277.2.2.2.2.2.2.2.2.1
theorem dL_law_597 : decode cL_law 597 = .ok (.iload_n 3, 1) := dGR_45_lawrows_1277.2.2.2.2.2.2.2.2.2.1
theorem dL_law_598 : decode cL_law 598 = .ok (.iconst 1, 1) := dGR_45_lawrows_1277.2.2.2.2.2.2.2.2.2.2.1
theorem dL_law_599 : decode cL_law 599 = .ok (.iadd, 1) := dGR_45_lawrows_1277.2.2.2.2.2.2.2.2.2.2.2
set_option maxRecDepth 100000 in
theorem dGR_45_lawrows_1278 : (decode cL_law 600 = .ok (.iaload, 1)) ∧ (decode cL_law 601 = .ok (.invokevirtual 62, 3)) ∧ (decode cL_law 604 = .ok (.pop, 1)) ∧ (decode cL_law 605 = .ok (.goto 1445, 3)) ∧ (decode cL_law 608 = .ok (.aload_n 1, 1)) ∧ (decode cL_law 609 = .ok (.aload_n 0, 1)) ∧ (decode cL_law 610 = .ok (.iload_n 3, 1)) ∧ (decode cL_law 611 = .ok (.iconst 1, 1)) ∧ (decode cL_law 612 = .ok (.iadd, 1)) ∧ (decode cL_law 613 = .ok (.iaload, 1)) ∧ (decode cL_law 614 = .ok (.invokevirtual 63, 3)) ∧ (decode cL_law 617 = .ok (.pop, 1)) := by decide +kernel
theorem dL_law_600 : decode cL_law 600 = .ok (.iaload, 1) := dGR_45_lawrows_1278.1
theorem dL_law_601 : decode cL_law 601 = .ok (.invokevirtual 62, 3) := dGR_45_lawrows_1278.2.1
theorem dL_law_604 : decode cL_law 604 = .ok (.pop, 1) := dGR_45_lawrows_1278.2.2.1
theorem dL_law_605 : decode cL_law 605 = .ok (.goto 1445, 3) := dGR_45_lawrows_1278.2.2.2.1
theorem dL_law_608 : decode cL_law 608 = .ok (.aload_n 1, 1) := dGR_45_lawrows_1278.2.2.2.2.1
theorem dL_law_609 : decode cL_law 609 = .ok (.aload_n 0, 1) := dGR_45_lawrows_1278.2.2.2.2.2.1
theorem dL_law_610 : decode cL_law 610 = .ok (.iload_n 3, 1) := dGR_45_lawrows_1278.2.2.2.2.2.2.1
theorem dL_law_611 : decode cL_law 611 = .ok (.iconst 1, 1) := dGR_45_lawrows_1278.2.2.2.2.2.2.2.1
theorem dL_law_612 : decode cL_law 612 = .ok (.iadd, 1) := dGR_45_lawrows_1278.2.2.2.2.2.2.2.2.1
theorem dL_law_613 : decode cL_law 613 = .ok (.iaload, 1) := dGR_45_lawrows_1278.2.2.2.2.2.2.2.2.2.1
theorem dL_law_614 : decode cL_law 614 = .ok (.invokevirtual 63, 3) := dGR_45_lawrows_1278.2.2.2.2.2.2.2.2.2.2.1
theorem dL_law_617 : decode cL_law 617 = .ok (.pop, 1) := dGR_45_lawrows_1278.2.2.2.2.2.2.2.2.2.2.2
set_option maxRecDepth 100000 in
theorem dGR_45_lawrows_1279 : (decode cL_law 618 = .ok (.aload_n 2, 1)) ∧ (decode cL_law 619 = .ok (.aload_n 0, 1)) ∧ (decode cL_law 620 = .ok (.iload_n 3, 1)) ∧ (decode cL_law 621 = .ok (.iconst 1, 1)) ∧ (decode cL_law 622 = .ok (.iadd, 1)) ∧ (decode cL_law 623 = .ok (.iaload, 1)) ∧ (decode cL_law 624 = .ok (.invokevirtual 66, 3)) ∧ (decode cL_law 627 = .ok (.pop, 1)) ∧ (decode cL_law 628 = .ok (.goto 1422, 3)) ∧ (decode cL_law 631 = .ok (.aload_n 1, 1)) ∧ (decode cL_law 632 = .ok (.aload_n 0, 1)) ∧ (decode cL_law 633 = .ok (.iload_n 3, 1)) := by decide +kernel
theorem dL_law_618 : decode cL_law 618 = .ok (.aload_n 2, 1) := dGR_45_lawrows_1279.1
theorem dL_law_619 : decode cL_law 619 = .ok (.aload_n 0, 1) := dGR_45_lawrows_1279.2.1
theorem dL_law_620 : decode cL_law 620 = .ok (.iload_n 3, 1) := dGR_45_lawrows_1279.2.2.1
theorem dL_law_621 : decode cL_law 621 = .ok (.iconst 1, 1) := dGR_45_lawrows_1279.2.2.2.1
theorem dL_law_622 : decode cL_law 622 = .ok (.iadd, 1) := dGR_45_lawrows_1279.2.2.2.2.1
theorem dL_law_623 : decode cL_law 623 = .ok (.iaload, 1) := dGR_45_lawrows_1279.2.2.2.2.2.1
theorem dL_law_624 : decode cL_law 624 = .ok (.invokevirtual 66, 3) := dGR_45_lawrows_1279.2.2.2.2.2.2.1
theorem dL_law_627 : decode cL_law 627 = .ok (.pop, 1) := dGR_45_lawrows_1279.2.2.2.2.2.2.2.1
theorem dL_law_628 : decode cL_law 628 = .ok (.goto 1422, 3) := dGR_45_lawrows_1279.2.2.2.2.2.2.2.2.1
theorem dL_law_631 : decode cL_law 631 = .ok (.aload_n 1, 1) := dGR_45_lawrows_1279.2.2.2.2.2.2.2.2.2.1
theorem dL_law_632 : decode cL_law 632 = .ok (.aload_n 0, 1) := dGR_45_lawrows_1279.2.2.2.2.2.2.2.2.2.2.1
theorem dL_law_633 : decode cL_law 633 = .ok (.iload_n 3, 1) := dGR_45_lawrows_1279.2.2.2.2.2.2.2.2.2.2.2
set_option maxRecDepth 100000 in
theorem dGR_45_lawrows_1280 : (decode cL_law 634 = .ok (.iconst 1, 1)) ∧ (decode cL_law 635 = .ok (.iadd, 1)) ∧ (decode cL_law 636 = .ok (.iaload, 1)) ∧ (decode cL_law 637 = .ok (.aload_n 0, 1)) ∧ (decode cL_law 638 = .ok (.iload_n 3, 1)) ∧ (decode cL_law 639 = .ok (.iconst 2, 1)) ∧ (decode cL_law 640 = .ok (.iadd, 1)) ∧ (decode cL_law 641 = .ok (.iaload, 1)) ∧ (decode cL_law 642 = .ok (.invokevirtual 67, 3)) ∧ (decode cL_law 645 = .ok (.pop, 1)) ∧ (decode cL_law 646 = .ok (.aload_n 2, 1)) ∧ (decode cL_law 647 = .ok (.aload_n 0, 1)) := by decide +kernel
theorem dL_law_634 : decode cL_law 634 = .ok (.iconst 1, 1) := dGR_45_lawrows_1280.1
theorem dL_law_635 : decode cL_law 635 = .ok (.iadd, 1) := dGR_45_lawrows_1280.2.1
theorem dL_law_636 : decode cL_law 636 = .ok (.iaload, 1) := dGR_45_lawrows_1280.2.2.1
theorem dL_law_637 : decode cL_law 637 = .ok (.aload_n 0, 1) := dGR_45_lawrows_1280.2.2.2.1
theorem dL_law_638 : decode cL_law 638 = .ok (.iload_n 3, 1) := dGR_45_lawrows_1280.2.2.2.2.1
theorem dL_law_639 : decode cL_law 639 = .ok (.iconst 2, 1) := dGR_45_lawrows_1280.2.2.2.2.2.1
theorem dL_law_640 : decode cL_law 640 = .ok (.iadd, 1) := dGR_45_lawrows_1280.2.2.2.2.2.2.1
theorem dL_law_641 : decode cL_law 641 = .ok (.iaload, 1) := dGR_45_lawrows_1280.2.2.2.2.2.2.2.1
theorem dL_law_642 : decode cL_law 642 = .ok (.invokevirtual 67, 3) := dGR_45_lawrows_1280.2.2.2.2.2.2.2.2.1
theorem dL_law_645 : decode cL_law 645 = .ok (.pop, 1) := dGR_45_lawrows_1280.2.2.2.2.2.2.2.2.2.1
theorem dL_law_646 : decode cL_law 646 = .ok (.aload_n 2, 1) := dGR_45_lawrows_1280.2.2.2.2.2.2.2.2.2.2.1
theorem dL_law_647 : decode cL_law 647 = .ok (.aload_n 0, 1) := dGR_45_lawrows_1280.2.2.2.2.2.2.2.2.2.2.2
set_option maxRecDepth 100000 in
theorem dGR_45_lawrows_1281 : (decode cL_law 648 = .ok (.iload_n 3, 1)) ∧ (decode cL_law 649 = .ok (.iconst 1, 1)) ∧ (decode cL_law 650 = .ok (.iadd, 1)) ∧ (decode cL_law 651 = .ok (.iaload, 1)) ∧ (decode cL_law 652 = .ok (.aload_n 0, 1)) ∧ (decode cL_law 653 = .ok (.iload_n 3, 1)) ∧ (decode cL_law 654 = .ok (.iconst 2, 1)) ∧ (decode cL_law 655 = .ok (.iadd, 1)) ∧ (decode cL_law 656 = .ok (.iaload, 1)) ∧ (decode cL_law 657 = .ok (.invokevirtual 71, 3)) ∧ (decode cL_law 660 = .ok (.pop, 1)) ∧ (decode cL_law 661 = .ok (.goto 1389, 3)) := by decide +kernel
theorem dL_law_648 : decode cL_law 648 = .ok (.iload_n 3, 1) := dGR_45_lawrows_1281.1
theorem dL_law_649 : decode cL_law 649 = .ok (.iconst 1, 1) := dGR_45_lawrows_1281.2.1
theorem dL_law_650 : decode cL_law 650 = .ok (.iadd, 1) := dGR_45_lawrows_1281.2.2.1
theorem dL_law_651 : decode cL_law 651 = .ok (.iaload, 1) := dGR_45_lawrows_1281.2.2.2.1
theorem dL_law_652 : decode cL_law 652 = .ok (.aload_n 0, 1) := dGR_45_lawrows_1281.2.2.2.2.1
theorem dL_law_653 : decode cL_law 653 = .ok (.iload_n 3, 1) := dGR_45_lawrows_1281.2.2.2.2.2.1
theorem dL_law_654 : decode cL_law 654 = .ok (.iconst 2, 1) := dGR_45_lawrows_1281.2.2.2.2.2.2.1
theorem dL_law_655 : decode cL_law 655 = .ok (.iadd, 1) := dGR_45_lawrows_1281.2.2.2.2.2.2.2.1
theorem dL_law_656 : decode cL_law 656 = .ok (.iaload, 1) := dGR_45_lawrows_1281.2.2.2.2.2.2.2.2.1
theorem dL_law_657 : decode cL_law 657 = .ok (.invokevirtual 71, 3) := dGR_45_lawrows_1281.2.2.2.2.2.2.2.2.2.1
theorem dL_law_660 : decode cL_law 660 = .ok (.pop, 1) := dGR_45_lawrows_1281.2.2.2.2.2.2.2.2.2.2.1
theorem dL_law_661 : decode cL_law 661 = .ok (.goto 1389, 3) := dGR_45_lawrows_1281.2.2.2.2.2.2.2.2.2.2.2
set_option maxRecDepth 100000 in
theorem dGR_45_lawrows_1282 : (decode cL_law 664 = .ok (.aload_n 1, 1)) ∧ (decode cL_law 665 = .ok (.aload_n 0, 1)) ∧ (decode cL_law 666 = .ok (.iload_n 3, 1)) ∧ (decode cL_law 667 = .ok (.iconst 1, 1)) ∧ (decode cL_law 668 = .ok (.iadd, 1)) ∧ (decode cL_law 669 = .ok (.iaload, 1)) ∧ (decode cL_law 670 = .ok (.aload_n 0, 1)) ∧ (decode cL_law 671 = .ok (.iload_n 3, 1)) ∧ (decode cL_law 672 = .ok (.iconst 2, 1)) ∧ (decode cL_law 673 = .ok (.iadd, 1)) ∧ (decode cL_law 674 = .ok (.iaload, 1)) ∧ (decode cL_law 675 = .ok (.aload_n 0, 1)) := by decide +kernel
theorem dL_law_664 : decode cL_law 664 = .ok (.aload_n 1, 1) := dGR_45_lawrows_1282.1
theorem dL_law_665 : decode cL_law 665 = .ok (.aload_n 0, 1) := dGR_45_lawrows_1282.2.1
theorem dL_law_666 : decode cL_law 666 = .ok (.iload_n 3, 1) := dGR_45_lawrows_1282.2.2.1
theorem dL_law_667 : decode cL_law 667 = .ok (.iconst 1, 1) := dGR_45_lawrows_1282.2.2.2.1
theorem dL_law_668 : decode cL_law 668 = .ok (.iadd, 1) := dGR_45_lawrows_1282.2.2.2.2.1
theorem dL_law_669 : decode cL_law 669 = .ok (.iaload, 1) := dGR_45_lawrows_1282.2.2.2.2.2.1
theorem dL_law_670 : decode cL_law 670 = .ok (.aload_n 0, 1) := dGR_45_lawrows_1282.2.2.2.2.2.2.1
theorem dL_law_671 : decode cL_law 671 = .ok (.iload_n 3, 1) := dGR_45_lawrows_1282.2.2.2.2.2.2.2.1
theorem dL_law_672 : decode cL_law 672 = .ok (.iconst 2, 1) := dGR_45_lawrows_1282.2.2.2.2.2.2.2.2.1
theorem dL_law_673 : decode cL_law 673 = .ok (.iadd, 1) := dGR_45_lawrows_1282.2.2.2.2.2.2.2.2.2.1
theorem dL_law_674 : decode cL_law 674 = .ok (.iaload, 1) := dGR_45_lawrows_1282.2.2.2.2.2.2.2.2.2.2.1
theorem dL_law_675 : decode cL_law 675 = .ok (.aload_n 0, 1) := dGR_45_lawrows_1282.2.2.2.2.2.2.2.2.2.2.2
set_option maxRecDepth 100000 in
theorem dGR_45_lawrows_1283 : (decode cL_law 676 = .ok (.iload_n 3, 1)) ∧ (decode cL_law 677 = .ok (.iconst 3, 1)) ∧ (decode cL_law 678 = .ok (.iadd, 1)) ∧ (decode cL_law 679 = .ok (.iaload, 1)) ∧ (decode cL_law 680 = .ok (.invokevirtual 72, 3)) ∧ (decode cL_law 683 = .ok (.pop, 1)) ∧ (decode cL_law 684 = .ok (.aload_n 2, 1)) ∧ (decode cL_law 685 = .ok (.aload_n 0, 1)) ∧ (decode cL_law 686 = .ok (.iload_n 3, 1)) ∧ (decode cL_law 687 = .ok (.iconst 1, 1)) ∧ (decode cL_law 688 = .ok (.iadd, 1)) ∧ (decode cL_law 689 = .ok (.iaload, 1)) := by decide +kernel
theorem dL_law_676 : decode cL_law 676 = .ok (.iload_n 3, 1) := dGR_45_lawrows_1283.1
theorem dL_law_677 : decode cL_law 677 = .ok (.iconst 3, 1) := dGR_45_lawrows_1283.2.1
theorem dL_law_678 : decode cL_law 678 = .ok (.iadd, 1) := dGR_45_lawrows_1283.2.2.1
theorem dL_law_679 : decode cL_law 679 = .ok (.iaload, 1) := dGR_45_lawrows_1283.2.2.2.1
theorem dL_law_680 : decode cL_law 680 = .ok (.invokevirtual 72, 3) := dGR_45_lawrows_1283.2.2.2.2.1
theorem dL_law_683 : decode cL_law 683 = .ok (.pop, 1) := dGR_45_lawrows_1283.2.2.2.2.2.1
theorem dL_law_684 : decode cL_law 684 = .ok (.aload_n 2, 1) := dGR_45_lawrows_1283.2.2.2.2.2.2.1
theorem dL_law_685 : decode cL_law 685 = .ok (.aload_n 0, 1) := dGR_45_lawrows_1283.2.2.2.2.2.2.2.1
theorem dL_law_686 : decode cL_law 686 = .ok (.iload_n 3, 1) := dGR_45_lawrows_1283.2.2.2.2.2.2.2.2.1
theorem dL_law_687 : decode cL_law 687 = .ok (.iconst 1, 1) := dGR_45_lawrows_1283.2.2.2.2.2.2.2.2.2.1
theorem dL_law_688 : decode cL_law 688 = .ok (.iadd, 1) := dGR_45_lawrows_1283.2.2.2.2.2.2.2.2.2.2.1
theorem dL_law_689 : decode cL_law 689 = .ok (.iaload, 1) := dGR_45_lawrows_1283.2.2.2.2.2.2.2.2.2.2.2
set_option maxRecDepth 100000 in
theorem dGR_45_lawrows_1284 : (decode cL_law 690 = .ok (.aload_n 0, 1)) ∧ (decode cL_law 691 = .ok (.iload_n 3, 1)) ∧ (decode cL_law 692 = .ok (.iconst 2, 1)) ∧ (decode cL_law 693 = .ok (.iadd, 1)) ∧ (decode cL_law 694 = .ok (.iaload, 1)) ∧ (decode cL_law 695 = .ok (.aload_n 0, 1)) ∧ (decode cL_law 696 = .ok (.iload_n 3, 1)) ∧ (decode cL_law 697 = .ok (.iconst 3, 1)) ∧ (decode cL_law 698 = .ok (.iadd, 1)) ∧ (decode cL_law 699 = .ok (.iaload, 1)) ∧ (decode cL_law 700 = .ok (.invokevirtual 76, 3)) ∧ (decode cL_law 703 = .ok (.pop, 1)) := by decide +kernel
theorem dL_law_690 : decode cL_law 690 = .ok (.aload_n 0, 1) := dGR_45_lawrows_1284.1
theorem dL_law_691 : decode cL_law 691 = .ok (.iload_n 3, 1) := dGR_45_lawrows_1284.2.1
theorem dL_law_692 : decode cL_law 692 = .ok (.iconst 2, 1) := dGR_45_lawrows_1284.2.2.1
theorem dL_law_693 : decode cL_law 693 = .ok (.iadd, 1) := dGR_45_lawrows_1284.2.2.2.1
theorem dL_law_694 : decode cL_law 694 = .ok (.iaload, 1) := dGR_45_lawrows_1284.2.2.2.2.1
theorem dL_law_695 : decode cL_law 695 = .ok (.aload_n 0, 1) := dGR_45_lawrows_1284.2.2.2.2.2.1
theorem dL_law_696 : decode cL_law 696 = .ok (.iload_n 3, 1) := dGR_45_lawrows_1284.2.2.2.2.2.2.1
theorem dL_law_697 : decode cL_law 697 = .ok (.iconst 3, 1) := dGR_45_lawrows_1284.2.2.2.2.2.2.2.1
theorem dL_law_698 : decode cL_law 698 = .ok (.iadd, 1) := dGR_45_lawrows_1284.2.2.2.2.2.2.2.2.1
theorem dL_law_699 : decode cL_law 699 = .ok (.iaload, 1) := dGR_45_lawrows_1284.2.2.2.2.2.2.2.2.2.1
theorem dL_law_700 : decode cL_law 700 = .ok (.invokevirtual 76, 3) := dGR_45_lawrows_1284.2.2.2.2.2.2.2.2.2.2.1
theorem dL_law_703 : decode cL_law 703 = .ok (.pop, 1) := dGR_45_lawrows_1284.2.2.2.2.2.2.2.2.2.2.2
set_option maxRecDepth 100000 in
theorem dGR_45_lawrows_1285 : (decode cL_law 704 = .ok (.goto 1346, 3)) ∧ (decode cL_law 707 = .ok (.aload_n 1, 1)) ∧ (decode cL_law 708 = .ok (.aload_n 0, 1)) ∧ (decode cL_law 709 = .ok (.iload_n 3, 1)) ∧ (decode cL_law 710 = .ok (.iconst 1, 1)) ∧ (decode cL_law 711 = .ok (.iadd, 1)) ∧ (decode cL_law 712 = .ok (.iaload, 1)) ∧ (decode cL_law 713 = .ok (.aload_n 0, 1)) ∧ (decode cL_law 714 = .ok (.iload_n 3, 1)) ∧ (decode cL_law 715 = .ok (.iconst 2, 1)) ∧ (decode cL_law 716 = .ok (.iadd, 1)) ∧ (decode cL_law 717 = .ok (.iaload, 1)) := by decide +kernel
theorem dL_law_704 : decode cL_law 704 = .ok (.goto 1346, 3) := dGR_45_lawrows_1285.1
theorem dL_law_707 : decode cL_law 707 = .ok (.aload_n 1, 1) := dGR_45_lawrows_1285.2.1
theorem dL_law_708 : decode cL_law 708 = .ok (.aload_n 0, 1) := dGR_45_lawrows_1285.2.2.1
theorem dL_law_709 : decode cL_law 709 = .ok (.iload_n 3, 1) := dGR_45_lawrows_1285.2.2.2.1
theorem dL_law_710 : decode cL_law 710 = .ok (.iconst 1, 1) := dGR_45_lawrows_1285.2.2.2.2.1
theorem dL_law_711 : decode cL_law 711 = .ok (.iadd, 1) := dGR_45_lawrows_1285.2.2.2.2.2.1
theorem dL_law_712 : decode cL_law 712 = .ok (.iaload, 1) := dGR_45_lawrows_1285.2.2.2.2.2.2.1
theorem dL_law_713 : decode cL_law 713 = .ok (.aload_n 0, 1) := dGR_45_lawrows_1285.2.2.2.2.2.2.2.1
theorem dL_law_714 : decode cL_law 714 = .ok (.iload_n 3, 1) := dGR_45_lawrows_1285.2.2.2.2.2.2.2.2.1
theorem dL_law_715 : decode cL_law 715 = .ok (.iconst 2, 1) := dGR_45_lawrows_1285.2.2.2.2.2.2.2.2.2.1
theorem dL_law_716 : decode cL_law 716 = .ok (.iadd, 1) := dGR_45_lawrows_1285.2.2.2.2.2.2.2.2.2.2.1
theorem dL_law_717 : decode cL_law 717 = .ok (.iaload, 1) := dGR_45_lawrows_1285.2.2.2.2.2.2.2.2.2.2.2
set_option maxRecDepth 100000 in
theorem dGR_45_lawrows_1286 : (decode cL_law 718 = .ok (.aload_n 0, 1)) ∧ (decode cL_law 719 = .ok (.iload_n 3, 1)) ∧ (decode cL_law 720 = .ok (.iconst 3, 1)) ∧ (decode cL_law 721 = .ok (.iadd, 1)) ∧ (decode cL_law 722 = .ok (.iaload, 1)) ∧ (decode cL_law 723 = .ok (.aload_n 0, 1)) ∧ (decode cL_law 724 = .ok (.iload_n 3, 1)) ∧ (decode cL_law 725 = .ok (.iconst 4, 1)) ∧ (decode cL_law 726 = .ok (.iadd, 1)) ∧ (decode cL_law 727 = .ok (.iaload, 1)) ∧ (decode cL_law 728 = .ok (.aload_n 0, 1)) ∧ (decode cL_law 729 = .ok (.iload_n 3, 1)) := by decide +kernel
theorem dL_law_718 : decode cL_law 718 = .ok (.aload_n 0, 1) := dGR_45_lawrows_1286.1
theorem dL_law_719 : decode cL_law 719 = .ok (.iload_n 3, 1) := dGR_45_lawrows_1286.2.1
theorem dL_law_720 : decode cL_law 720 = .ok (.iconst 3, 1) := dGR_45_lawrows_1286.2.2.1
theorem dL_law_721 : decode cL_law 721 = .ok (.iadd, 1) := dGR_45_lawrows_1286.2.2.2.1
theorem dL_law_722 : decode cL_law 722 = .ok (.iaload, 1) := dGR_45_lawrows_1286.2.2.2.2.1
theorem dL_law_723 : decode cL_law 723 = .ok (.aload_n 0, 1) := dGR_45_lawrows_1286.2.2.2.2.2.1
theorem dL_law_724 : decode cL_law 724 = .ok (.iload_n 3, 1) := dGR_45_lawrows_1286.2.2.2.2.2.2.1
theorem dL_law_725 : decode cL_law 725 = .ok (.iconst 4, 1) := dGR_45_lawrows_1286.2.2.2.2.2.2.2.1
theorem dL_law_726 : decode cL_law 726 = .ok (.iadd, 1) := dGR_45_lawrows_1286.2.2.2.2.2.2.2.2.1
theorem dL_law_727 : decode cL_law 727 = .ok (.iaload, 1) := dGR_45_lawrows_1286.2.2.2.2.2.2.2.2.2.1
theorem dL_law_728 : decode cL_law 728 = .ok (.aload_n 0, 1) := dGR_45_lawrows_1286.2.2.2.2.2.2.2.2.2.2.1
theorem dL_law_729 : decode cL_law 729 = .ok (.iload_n 3, 1) := dGR_45_lawrows_1286.2.2.2.2.2.2.2.2.2.2.2
set_option maxRecDepth 100000 in
theorem dGR_45_lawrows_1287 : (decode cL_law 730 = .ok (.iconst 5, 1)) ∧ (decode cL_law 731 = .ok (.iadd, 1)) ∧ (decode cL_law 732 = .ok (.iaload, 1)) ∧ (decode cL_law 733 = .ok (.invokevirtual 77, 3)) ∧ (decode cL_law 736 = .ok (.pop, 1)) ∧ (decode cL_law 737 = .ok (.aload_n 2, 1)) ∧ (decode cL_law 738 = .ok (.aload_n 0, 1)) ∧ (decode cL_law 739 = .ok (.iload_n 3, 1)) ∧ (decode cL_law 740 = .ok (.iconst 1, 1)) ∧ (decode cL_law 741 = .ok (.iadd, 1)) ∧ (decode cL_law 742 = .ok (.iaload, 1)) ∧ (decode cL_law 743 = .ok (.aload_n 0, 1)) := by decide +kernel
theorem dL_law_730 : decode cL_law 730 = .ok (.iconst 5, 1) := dGR_45_lawrows_1287.1
theorem dL_law_731 : decode cL_law 731 = .ok (.iadd, 1) := dGR_45_lawrows_1287.2.1
theorem dL_law_732 : decode cL_law 732 = .ok (.iaload, 1) := dGR_45_lawrows_1287.2.2.1
theorem dL_law_733 : decode cL_law 733 = .ok (.invokevirtual 77, 3) := dGR_45_lawrows_1287.2.2.2.1
theorem dL_law_736 : decode cL_law 736 = .ok (.pop, 1) := dGR_45_lawrows_1287.2.2.2.2.1
theorem dL_law_737 : decode cL_law 737 = .ok (.aload_n 2, 1) := dGR_45_lawrows_1287.2.2.2.2.2.1
theorem dL_law_738 : decode cL_law 738 = .ok (.aload_n 0, 1) := dGR_45_lawrows_1287.2.2.2.2.2.2.1
theorem dL_law_739 : decode cL_law 739 = .ok (.iload_n 3, 1) := dGR_45_lawrows_1287.2.2.2.2.2.2.2.1
theorem dL_law_740 : decode cL_law 740 = .ok (.iconst 1, 1) := dGR_45_lawrows_1287.2.2.2.2.2.2.2.2.1
theorem dL_law_741 : decode cL_law 741 = .ok (.iadd, 1) := dGR_45_lawrows_1287.2.2.2.2.2.2.2.2.2.1
theorem dL_law_742 : decode cL_law 742 = .ok (.iaload, 1) := dGR_45_lawrows_1287.2.2.2.2.2.2.2.2.2.2.1
theorem dL_law_743 : decode cL_law 743 = .ok (.aload_n 0, 1) := dGR_45_lawrows_1287.2.2.2.2.2.2.2.2.2.2.2
set_option maxRecDepth 100000 in
theorem dGR_45_lawrows_1288 : (decode cL_law 744 = .ok (.iload_n 3, 1)) ∧ (decode cL_law 745 = .ok (.iconst 2, 1)) ∧ (decode cL_law 746 = .ok (.iadd, 1)) ∧ (decode cL_law 747 = .ok (.iaload, 1)) ∧ (decode cL_law 748 = .ok (.aload_n 0, 1)) ∧ (decode cL_law 749 = .ok (.iload_n 3, 1)) ∧ (decode cL_law 750 = .ok (.iconst 3, 1)) ∧ (decode cL_law 751 = .ok (.iadd, 1)) ∧ (decode cL_law 752 = .ok (.iaload, 1)) ∧ (decode cL_law 753 = .ok (.aload_n 0, 1)) ∧ (decode cL_law 754 = .ok (.iload_n 3, 1)) ∧ (decode cL_law 755 = .ok (.iconst 4, 1)) := by decide +kernel
theorem dL_law_744 : decode cL_law 744 = .ok (.iload_n 3, 1) := dGR_45_lawrows_1288.1
theorem dL_law_745 : decode cL_law 745 = .ok (.iconst 2, 1) := dGR_45_lawrows_1288.2.1
theorem dL_law_746 : decode cL_law 746 = .ok (.iadd, 1) := dGR_45_lawrows_1288.2.2.1
theorem dL_law_747 : decode cL_law 747 = .ok (.iaload, 1) := dGR_45_lawrows_1288.2.2.2.1
theorem dL_law_748 : decode cL_law 748 = .ok (.aload_n 0, 1) := dGR_45_lawrows_1288.2.2.2.2.1
theorem dL_law_749 : decode cL_law 749 = .ok (.iload_n 3, 1) := dGR_45_lawrows_1288.2.2.2.2.2.1
theorem dL_law_750 : decode cL_law 750 = .ok (.iconst 3, 1) := dGR_45_lawrows_1288.2.2.2.2.2.2.1
theorem dL_law_751 : decode cL_law 751 = .ok (.iadd, 1) := dGR_45_lawrows_1288.2.2.2.2.2.2.2.1
theorem dL_law_752 : decode cL_law 752 = .ok (.iaload, 1) := dGR_45_lawrows_1288.2.2.2.2.2.2.2.2.1
theorem dL_law_753 : decode cL_law 753 = .ok (.aload_n 0, 1) := dGR_45_lawrows_1288.2.2.2.2.2.2.2.2.2.1
theorem dL_law_754 : decode cL_law 754 = .ok (.iload_n 3, 1) := dGR_45_lawrows_1288.2.2.2.2.2.2.2.2.2.2.1
theorem dL_law_755 : decode cL_law 755 = .ok (.iconst 4, 1) := dGR_45_lawrows_1288.2.2.2.2.2.2.2.2.2.2.2
set_option maxRecDepth 100000 in
theorem dGR_45_lawrows_1289 : (decode cL_law 756 = .ok (.iadd, 1)) ∧ (decode cL_law 757 = .ok (.iaload, 1)) ∧ (decode cL_law 758 = .ok (.aload_n 0, 1)) ∧ (decode cL_law 759 = .ok (.iload_n 3, 1)) ∧ (decode cL_law 760 = .ok (.iconst 5, 1)) ∧ (decode cL_law 761 = .ok (.iadd, 1)) ∧ (decode cL_law 762 = .ok (.iaload, 1)) ∧ (decode cL_law 763 = .ok (.invokevirtual 80, 3)) ∧ (decode cL_law 766 = .ok (.pop, 1)) ∧ (decode cL_law 767 = .ok (.goto 1283, 3)) ∧ (decode cL_law 770 = .ok (.aload_n 1, 1)) ∧ (decode cL_law 771 = .ok (.aload_n 0, 1)) := by decide +kernel
theorem dL_law_756 : decode cL_law 756 = .ok (.iadd, 1) := dGR_45_lawrows_1289.1
theorem dL_law_757 : decode cL_law 757 = .ok (.iaload, 1) := dGR_45_lawrows_1289.2.1
theorem dL_law_758 : decode cL_law 758 = .ok (.aload_n 0, 1) := dGR_45_lawrows_1289.2.2.1
theorem dL_law_759 : decode cL_law 759 = .ok (.iload_n 3, 1) := dGR_45_lawrows_1289.2.2.2.1
theorem dL_law_760 : decode cL_law 760 = .ok (.iconst 5, 1) := dGR_45_lawrows_1289.2.2.2.2.1
theorem dL_law_761 : decode cL_law 761 = .ok (.iadd, 1) := dGR_45_lawrows_1289.2.2.2.2.2.1
theorem dL_law_762 : decode cL_law 762 = .ok (.iaload, 1) := dGR_45_lawrows_1289.2.2.2.2.2.2.1
theorem dL_law_763 : decode cL_law 763 = .ok (.invokevirtual 80, 3) := dGR_45_lawrows_1289.2.2.2.2.2.2.2.1
theorem dL_law_766 : decode cL_law 766 = .ok (.pop, 1) := dGR_45_lawrows_1289.2.2.2.2.2.2.2.2.1
theorem dL_law_767 : decode cL_law 767 = .ok (.goto 1283, 3) := dGR_45_lawrows_1289.2.2.2.2.2.2.2.2.2.1
theorem dL_law_770 : decode cL_law 770 = .ok (.aload_n 1, 1) := dGR_45_lawrows_1289.2.2.2.2.2.2.2.2.2.2.1
theorem dL_law_771 : decode cL_law 771 = .ok (.aload_n 0, 1) := dGR_45_lawrows_1289.2.2.2.2.2.2.2.2.2.2.2
set_option maxRecDepth 100000 in
theorem dGR_45_lawrows_1290 : (decode cL_law 772 = .ok (.iload_n 3, 1)) ∧ (decode cL_law 773 = .ok (.iconst 1, 1)) ∧ (decode cL_law 774 = .ok (.iadd, 1)) ∧ (decode cL_law 775 = .ok (.iaload, 1)) ∧ (decode cL_law 776 = .ok (.aload_n 0, 1)) ∧ (decode cL_law 777 = .ok (.iload_n 3, 1)) ∧ (decode cL_law 778 = .ok (.iconst 2, 1)) ∧ (decode cL_law 779 = .ok (.iadd, 1)) ∧ (decode cL_law 780 = .ok (.iaload, 1)) ∧ (decode cL_law 781 = .ok (.invokevirtual 81, 3)) ∧ (decode cL_law 784 = .ok (.pop, 1)) ∧ (decode cL_law 785 = .ok (.aload_n 2, 1)) := by decide +kernel
theorem dL_law_772 : decode cL_law 772 = .ok (.iload_n 3, 1) := dGR_45_lawrows_1290.1
theorem dL_law_773 : decode cL_law 773 = .ok (.iconst 1, 1) := dGR_45_lawrows_1290.2.1
theorem dL_law_774 : decode cL_law 774 = .ok (.iadd, 1) := dGR_45_lawrows_1290.2.2.1
theorem dL_law_775 : decode cL_law 775 = .ok (.iaload, 1) := dGR_45_lawrows_1290.2.2.2.1
theorem dL_law_776 : decode cL_law 776 = .ok (.aload_n 0, 1) := dGR_45_lawrows_1290.2.2.2.2.1
theorem dL_law_777 : decode cL_law 777 = .ok (.iload_n 3, 1) := dGR_45_lawrows_1290.2.2.2.2.2.1
theorem dL_law_778 : decode cL_law 778 = .ok (.iconst 2, 1) := dGR_45_lawrows_1290.2.2.2.2.2.2.1
theorem dL_law_779 : decode cL_law 779 = .ok (.iadd, 1) := dGR_45_lawrows_1290.2.2.2.2.2.2.2.1
theorem dL_law_780 : decode cL_law 780 = .ok (.iaload, 1) := dGR_45_lawrows_1290.2.2.2.2.2.2.2.2.1
theorem dL_law_781 : decode cL_law 781 = .ok (.invokevirtual 81, 3) := dGR_45_lawrows_1290.2.2.2.2.2.2.2.2.2.1
theorem dL_law_784 : decode cL_law 784 = .ok (.pop, 1) := dGR_45_lawrows_1290.2.2.2.2.2.2.2.2.2.2.1
theorem dL_law_785 : decode cL_law 785 = .ok (.aload_n 2, 1) := dGR_45_lawrows_1290.2.2.2.2.2.2.2.2.2.2.2
set_option maxRecDepth 100000 in
theorem dGR_45_lawrows_1291 : (decode cL_law 786 = .ok (.aload_n 0, 1)) ∧ (decode cL_law 787 = .ok (.iload_n 3, 1)) ∧ (decode cL_law 788 = .ok (.iconst 1, 1)) ∧ (decode cL_law 789 = .ok (.iadd, 1)) ∧ (decode cL_law 790 = .ok (.iaload, 1)) ∧ (decode cL_law 791 = .ok (.aload_n 0, 1)) ∧ (decode cL_law 792 = .ok (.iload_n 3, 1)) ∧ (decode cL_law 793 = .ok (.iconst 2, 1)) ∧ (decode cL_law 794 = .ok (.iadd, 1)) ∧ (decode cL_law 795 = .ok (.iaload, 1)) ∧ (decode cL_law 796 = .ok (.invokevirtual 84, 3)) ∧ (decode cL_law 799 = .ok (.pop, 1)) := by decide +kernel
theorem dL_law_786 : decode cL_law 786 = .ok (.aload_n 0, 1) := dGR_45_lawrows_1291.1
theorem dL_law_787 : decode cL_law 787 = .ok (.iload_n 3, 1) := dGR_45_lawrows_1291.2.1
theorem dL_law_788 : decode cL_law 788 = .ok (.iconst 1, 1) := dGR_45_lawrows_1291.2.2.1
theorem dL_law_789 : decode cL_law 789 = .ok (.iadd, 1) := dGR_45_lawrows_1291.2.2.2.1
theorem dL_law_790 : decode cL_law 790 = .ok (.iaload, 1) := dGR_45_lawrows_1291.2.2.2.2.1
theorem dL_law_791 : decode cL_law 791 = .ok (.aload_n 0, 1) := dGR_45_lawrows_1291.2.2.2.2.2.1
theorem dL_law_792 : decode cL_law 792 = .ok (.iload_n 3, 1) := dGR_45_lawrows_1291.2.2.2.2.2.2.1
theorem dL_law_793 : decode cL_law 793 = .ok (.iconst 2, 1) := dGR_45_lawrows_1291.2.2.2.2.2.2.2.1
theorem dL_law_794 : decode cL_law 794 = .ok (.iadd, 1) := dGR_45_lawrows_1291.2.2.2.2.2.2.2.2.1
theorem dL_law_795 : decode cL_law 795 = .ok (.iaload, 1) := dGR_45_lawrows_1291.2.2.2.2.2.2.2.2.2.1
theorem dL_law_796 : decode cL_law 796 = .ok (.invokevirtual 84, 3) := dGR_45_lawrows_1291.2.2.2.2.2.2.2.2.2.2.1
theorem dL_law_799 : decode cL_law 799 = .ok (.pop, 1) := dGR_45_lawrows_1291.2.2.2.2.2.2.2.2.2.2.2
set_option maxRecDepth 100000 in
theorem dGR_45_lawrows_1292 : (decode cL_law 800 = .ok (.goto 1250, 3)) ∧ (decode cL_law 803 = .ok (.aload_n 1, 1)) ∧ (decode cL_law 804 = .ok (.aload_n 0, 1)) ∧ (decode cL_law 805 = .ok (.iload_n 3, 1)) ∧ (decode cL_law 806 = .ok (.iconst 1, 1)) ∧ (decode cL_law 807 = .ok (.iadd, 1)) ∧ (decode cL_law 808 = .ok (.iaload, 1)) ∧ (decode cL_law 809 = .ok (.aload_n 0, 1)) ∧ (decode cL_law 810 = .ok (.iload_n 3, 1)) ∧ (decode cL_law 811 = .ok (.iconst 2, 1)) ∧ (decode cL_law 812 = .ok (.iadd, 1)) ∧ (decode cL_law 813 = .ok (.iaload, 1)) := by decide +kernel
theorem dL_law_800 : decode cL_law 800 = .ok (.goto 1250, 3) := dGR_45_lawrows_1292.1
theorem dL_law_803 : decode cL_law 803 = .ok (.aload_n 1, 1) := dGR_45_lawrows_1292.2.1
theorem dL_law_804 : decode cL_law 804 = .ok (.aload_n 0, 1) := dGR_45_lawrows_1292.2.2.1
theorem dL_law_805 : decode cL_law 805 = .ok (.iload_n 3, 1) := dGR_45_lawrows_1292.2.2.2.1
theorem dL_law_806 : decode cL_law 806 = .ok (.iconst 1, 1) := dGR_45_lawrows_1292.2.2.2.2.1
theorem dL_law_807 : decode cL_law 807 = .ok (.iadd, 1) := dGR_45_lawrows_1292.2.2.2.2.2.1
theorem dL_law_808 : decode cL_law 808 = .ok (.iaload, 1) := dGR_45_lawrows_1292.2.2.2.2.2.2.1
theorem dL_law_809 : decode cL_law 809 = .ok (.aload_n 0, 1) := dGR_45_lawrows_1292.2.2.2.2.2.2.2.1
theorem dL_law_810 : decode cL_law 810 = .ok (.iload_n 3, 1) := dGR_45_lawrows_1292.2.2.2.2.2.2.2.2.1
theorem dL_law_811 : decode cL_law 811 = .ok (.iconst 2, 1) := dGR_45_lawrows_1292.2.2.2.2.2.2.2.2.2.1
theorem dL_law_812 : decode cL_law 812 = .ok (.iadd, 1) := dGR_45_lawrows_1292.2.2.2.2.2.2.2.2.2.2.1
theorem dL_law_813 : decode cL_law 813 = .ok (.iaload, 1) := dGR_45_lawrows_1292.2.2.2.2.2.2.2.2.2.2.2
set_option maxRecDepth 100000 in
theorem dGR_45_lawrows_1293 : (decode cL_law 814 = .ok (.aload_n 0, 1)) ∧ (decode cL_law 815 = .ok (.iload_n 3, 1)) ∧ (decode cL_law 816 = .ok (.iconst 3, 1)) ∧ (decode cL_law 817 = .ok (.iadd, 1)) ∧ (decode cL_law 818 = .ok (.iaload, 1)) ∧ (decode cL_law 819 = .ok (.ifCond .eq 7, 3)) ∧ (decode cL_law 822 = .ok (.iconst 1, 1)) ∧ (decode cL_law 823 = .ok (.goto 4, 3)) ∧ (decode cL_law 826 = .ok (.iconst 0, 1)) ∧ (decode cL_law 827 = .ok (.invokevirtual 85, 3)) ∧ (decode cL_law 830 = .ok (.pop, 1)) ∧ (decode cL_law 831 = .ok (.aload_n 2, 1)) := by decide +kernel
theorem dL_law_814 : decode cL_law 814 = .ok (.aload_n 0, 1) := dGR_45_lawrows_1293.1
theorem dL_law_815 : decode cL_law 815 = .ok (.iload_n 3, 1) := dGR_45_lawrows_1293.2.1
theorem dL_law_816 : decode cL_law 816 = .ok (.iconst 3, 1) := dGR_45_lawrows_1293.2.2.1
theorem dL_law_817 : decode cL_law 817 = .ok (.iadd, 1) := dGR_45_lawrows_1293.2.2.2.1
theorem dL_law_818 : decode cL_law 818 = .ok (.iaload, 1) := dGR_45_lawrows_1293.2.2.2.2.1
theorem dL_law_819 : decode cL_law 819 = .ok (.ifCond .eq 7, 3) := dGR_45_lawrows_1293.2.2.2.2.2.1
theorem dL_law_822 : decode cL_law 822 = .ok (.iconst 1, 1) := dGR_45_lawrows_1293.2.2.2.2.2.2.1
theorem dL_law_823 : decode cL_law 823 = .ok (.goto 4, 3) := dGR_45_lawrows_1293.2.2.2.2.2.2.2.1
theorem dL_law_826 : decode cL_law 826 = .ok (.iconst 0, 1) := dGR_45_lawrows_1293.2.2.2.2.2.2.2.2.1
theorem dL_law_827 : decode cL_law 827 = .ok (.invokevirtual 85, 3) := dGR_45_lawrows_1293.2.2.2.2.2.2.2.2.2.1
theorem dL_law_830 : decode cL_law 830 = .ok (.pop, 1) := dGR_45_lawrows_1293.2.2.2.2.2.2.2.2.2.2.1
theorem dL_law_831 : decode cL_law 831 = .ok (.aload_n 2, 1) := dGR_45_lawrows_1293.2.2.2.2.2.2.2.2.2.2.2
set_option maxRecDepth 100000 in
theorem dGR_45_lawrows_1294 : (decode cL_law 832 = .ok (.aload_n 0, 1)) ∧ (decode cL_law 833 = .ok (.iload_n 3, 1)) ∧ (decode cL_law 834 = .ok (.iconst 1, 1)) ∧ (decode cL_law 835 = .ok (.iadd, 1)) ∧ (decode cL_law 836 = .ok (.iaload, 1)) ∧ (decode cL_law 837 = .ok (.aload_n 0, 1)) ∧ (decode cL_law 838 = .ok (.iload_n 3, 1)) ∧ (decode cL_law 839 = .ok (.iconst 2, 1)) ∧ (decode cL_law 840 = .ok (.iadd, 1)) ∧ (decode cL_law 841 = .ok (.iaload, 1)) ∧ (decode cL_law 842 = .ok (.aload_n 0, 1)) ∧ (decode cL_law 843 = .ok (.iload_n 3, 1)) := by decide +kernel
theorem dL_law_832 : decode cL_law 832 = .ok (.aload_n 0, 1) := dGR_45_lawrows_1294.1
theorem dL_law_833 : decode cL_law 833 = .ok (.iload_n 3, 1) := dGR_45_lawrows_1294.2.1
theorem dL_law_834 : decode cL_law 834 = .ok (.iconst 1, 1) := dGR_45_lawrows_1294.2.2.1
theorem dL_law_835 : decode cL_law 835 = .ok (.iadd, 1) := dGR_45_lawrows_1294.2.2.2.1
theorem dL_law_836 : decode cL_law 836 = .ok (.iaload, 1) := dGR_45_lawrows_1294.2.2.2.2.1
theorem dL_law_837 : decode cL_law 837 = .ok (.aload_n 0, 1) := dGR_45_lawrows_1294.2.2.2.2.2.1
theorem dL_law_838 : decode cL_law 838 = .ok (.iload_n 3, 1) := dGR_45_lawrows_1294.2.2.2.2.2.2.1
theorem dL_law_839 : decode cL_law 839 = .ok (.iconst 2, 1) := dGR_45_lawrows_1294.2.2.2.2.2.2.2.1
theorem dL_law_840 : decode cL_law 840 = .ok (.iadd, 1) := dGR_45_lawrows_1294.2.2.2.2.2.2.2.2.1
theorem dL_law_841 : decode cL_law 841 = .ok (.iaload, 1) := dGR_45_lawrows_1294.2.2.2.2.2.2.2.2.2.1
theorem dL_law_842 : decode cL_law 842 = .ok (.aload_n 0, 1) := dGR_45_lawrows_1294.2.2.2.2.2.2.2.2.2.2.1
theorem dL_law_843 : decode cL_law 843 = .ok (.iload_n 3, 1) := dGR_45_lawrows_1294.2.2.2.2.2.2.2.2.2.2.2
set_option maxRecDepth 100000 in
theorem dGR_45_lawrows_1295 : (decode cL_law 844 = .ok (.iconst 3, 1)) ∧ (decode cL_law 845 = .ok (.iadd, 1)) ∧ (decode cL_law 846 = .ok (.iaload, 1)) ∧ (decode cL_law 847 = .ok (.ifCond .eq 7, 3)) ∧ (decode cL_law 850 = .ok (.iconst 1, 1)) ∧ (decode cL_law 851 = .ok (.goto 4, 3)) ∧ (decode cL_law 854 = .ok (.iconst 0, 1)) ∧ (decode cL_law 855 = .ok (.invokevirtual 89, 3)) ∧ (decode cL_law 858 = .ok (.pop, 1)) ∧ (decode cL_law 859 = .ok (.goto 1191, 3)) ∧ (decode cL_law 862 = .ok (.aload_n 1, 1)) ∧ (decode cL_law 863 = .ok (.aload_n 0, 1)) := by decide +kernel
theorem dL_law_844 : decode cL_law 844 = .ok (.iconst 3, 1) := dGR_45_lawrows_1295.1
theorem dL_law_845 : decode cL_law 845 = .ok (.iadd, 1) := dGR_45_lawrows_1295.2.1
theorem dL_law_846 : decode cL_law 846 = .ok (.iaload, 1) := dGR_45_lawrows_1295.2.2.1
theorem dL_law_847 : decode cL_law 847 = .ok (.ifCond .eq 7, 3) := dGR_45_lawrows_1295.2.2.2.1
theorem dL_law_850 : decode cL_law 850 = .ok (.iconst 1, 1) := dGR_45_lawrows_1295.2.2.2.2.1
theorem dL_law_851 : decode cL_law 851 = .ok (.goto 4, 3) := dGR_45_lawrows_1295.2.2.2.2.2.1
theorem dL_law_854 : decode cL_law 854 = .ok (.iconst 0, 1) := dGR_45_lawrows_1295.2.2.2.2.2.2.1
theorem dL_law_855 : decode cL_law 855 = .ok (.invokevirtual 89, 3) := dGR_45_lawrows_1295.2.2.2.2.2.2.2.1
theorem dL_law_858 : decode cL_law 858 = .ok (.pop, 1) := dGR_45_lawrows_1295.2.2.2.2.2.2.2.2.1
theorem dL_law_859 : decode cL_law 859 = .ok (.goto 1191, 3) := dGR_45_lawrows_1295.2.2.2.2.2.2.2.2.2.1
theorem dL_law_862 : decode cL_law 862 = .ok (.aload_n 1, 1) := dGR_45_lawrows_1295.2.2.2.2.2.2.2.2.2.2.1
theorem dL_law_863 : decode cL_law 863 = .ok (.aload_n 0, 1) := dGR_45_lawrows_1295.2.2.2.2.2.2.2.2.2.2.2
set_option maxRecDepth 100000 in
theorem dGR_45_lawrows_1296 : (decode cL_law 864 = .ok (.iload_n 3, 1)) ∧ (decode cL_law 865 = .ok (.iconst 1, 1)) ∧ (decode cL_law 866 = .ok (.iadd, 1)) ∧ (decode cL_law 867 = .ok (.iaload, 1)) ∧ (decode cL_law 868 = .ok (.aload_n 0, 1)) ∧ (decode cL_law 869 = .ok (.iload_n 3, 1)) ∧ (decode cL_law 870 = .ok (.iconst 2, 1)) ∧ (decode cL_law 871 = .ok (.iadd, 1)) ∧ (decode cL_law 872 = .ok (.iaload, 1)) ∧ (decode cL_law 873 = .ok (.aload_n 0, 1)) ∧ (decode cL_law 874 = .ok (.iload_n 3, 1)) ∧ (decode cL_law 875 = .ok (.iconst 3, 1)) := by decide +kernel
theorem dL_law_864 : decode cL_law 864 = .ok (.iload_n 3, 1) := dGR_45_lawrows_1296.1
theorem dL_law_865 : decode cL_law 865 = .ok (.iconst 1, 1) := dGR_45_lawrows_1296.2.1
theorem dL_law_866 : decode cL_law 866 = .ok (.iadd, 1) := dGR_45_lawrows_1296.2.2.1
theorem dL_law_867 : decode cL_law 867 = .ok (.iaload, 1) := dGR_45_lawrows_1296.2.2.2.1
theorem dL_law_868 : decode cL_law 868 = .ok (.aload_n 0, 1) := dGR_45_lawrows_1296.2.2.2.2.1
theorem dL_law_869 : decode cL_law 869 = .ok (.iload_n 3, 1) := dGR_45_lawrows_1296.2.2.2.2.2.1
theorem dL_law_870 : decode cL_law 870 = .ok (.iconst 2, 1) := dGR_45_lawrows_1296.2.2.2.2.2.2.1
theorem dL_law_871 : decode cL_law 871 = .ok (.iadd, 1) := dGR_45_lawrows_1296.2.2.2.2.2.2.2.1
theorem dL_law_872 : decode cL_law 872 = .ok (.iaload, 1) := dGR_45_lawrows_1296.2.2.2.2.2.2.2.2.1
theorem dL_law_873 : decode cL_law 873 = .ok (.aload_n 0, 1) := dGR_45_lawrows_1296.2.2.2.2.2.2.2.2.2.1
theorem dL_law_874 : decode cL_law 874 = .ok (.iload_n 3, 1) := dGR_45_lawrows_1296.2.2.2.2.2.2.2.2.2.2.1
theorem dL_law_875 : decode cL_law 875 = .ok (.iconst 3, 1) := dGR_45_lawrows_1296.2.2.2.2.2.2.2.2.2.2.2
set_option maxRecDepth 100000 in
theorem dGR_45_lawrows_1297 : (decode cL_law 876 = .ok (.iadd, 1)) ∧ (decode cL_law 877 = .ok (.iaload, 1)) ∧ (decode cL_law 878 = .ok (.ifCond .eq 7, 3)) ∧ (decode cL_law 881 = .ok (.iconst 1, 1)) ∧ (decode cL_law 882 = .ok (.goto 4, 3)) ∧ (decode cL_law 885 = .ok (.iconst 0, 1)) ∧ (decode cL_law 886 = .ok (.invokevirtual 90, 3)) ∧ (decode cL_law 889 = .ok (.pop, 1)) ∧ (decode cL_law 890 = .ok (.aload_n 2, 1)) ∧ (decode cL_law 891 = .ok (.aload_n 0, 1)) ∧ (decode cL_law 892 = .ok (.iload_n 3, 1)) ∧ (decode cL_law 893 = .ok (.iconst 1, 1)) := by decide +kernel
theorem dL_law_876 : decode cL_law 876 = .ok (.iadd, 1) := dGR_45_lawrows_1297.1
theorem dL_law_877 : decode cL_law 877 = .ok (.iaload, 1) := dGR_45_lawrows_1297.2.1
theorem dL_law_878 : decode cL_law 878 = .ok (.ifCond .eq 7, 3) := dGR_45_lawrows_1297.2.2.1
theorem dL_law_881 : decode cL_law 881 = .ok (.iconst 1, 1) := dGR_45_lawrows_1297.2.2.2.1
theorem dL_law_882 : decode cL_law 882 = .ok (.goto 4, 3) := dGR_45_lawrows_1297.2.2.2.2.1
theorem dL_law_885 : decode cL_law 885 = .ok (.iconst 0, 1) := dGR_45_lawrows_1297.2.2.2.2.2.1
theorem dL_law_886 : decode cL_law 886 = .ok (.invokevirtual 90, 3) := dGR_45_lawrows_1297.2.2.2.2.2.2.1
theorem dL_law_889 : decode cL_law 889 = .ok (.pop, 1) := dGR_45_lawrows_1297.2.2.2.2.2.2.2.1
theorem dL_law_890 : decode cL_law 890 = .ok (.aload_n 2, 1) := dGR_45_lawrows_1297.2.2.2.2.2.2.2.2.1
theorem dL_law_891 : decode cL_law 891 = .ok (.aload_n 0, 1) := dGR_45_lawrows_1297.2.2.2.2.2.2.2.2.2.1
theorem dL_law_892 : decode cL_law 892 = .ok (.iload_n 3, 1) := dGR_45_lawrows_1297.2.2.2.2.2.2.2.2.2.2.1
theorem dL_law_893 : decode cL_law 893 = .ok (.iconst 1, 1) := dGR_45_lawrows_1297.2.2.2.2.2.2.2.2.2.2.2
set_option maxRecDepth 100000 in
theorem dGR_45_lawrows_1298 : (decode cL_law 894 = .ok (.iadd, 1)) ∧ (decode cL_law 895 = .ok (.iaload, 1)) ∧ (decode cL_law 896 = .ok (.aload_n 0, 1)) ∧ (decode cL_law 897 = .ok (.iload_n 3, 1)) ∧ (decode cL_law 898 = .ok (.iconst 2, 1)) ∧ (decode cL_law 899 = .ok (.iadd, 1)) ∧ (decode cL_law 900 = .ok (.iaload, 1)) ∧ (decode cL_law 901 = .ok (.aload_n 0, 1)) ∧ (decode cL_law 902 = .ok (.iload_n 3, 1)) ∧ (decode cL_law 903 = .ok (.iconst 3, 1)) ∧ (decode cL_law 904 = .ok (.iadd, 1)) ∧ (decode cL_law 905 = .ok (.iaload, 1)) := by decide +kernel
theorem dL_law_894 : decode cL_law 894 = .ok (.iadd, 1) := dGR_45_lawrows_1298.1
theorem dL_law_895 : decode cL_law 895 = .ok (.iaload, 1) := dGR_45_lawrows_1298.2.1
theorem dL_law_896 : decode cL_law 896 = .ok (.aload_n 0, 1) := dGR_45_lawrows_1298.2.2.1
theorem dL_law_897 : decode cL_law 897 = .ok (.iload_n 3, 1) := dGR_45_lawrows_1298.2.2.2.1
theorem dL_law_898 : decode cL_law 898 = .ok (.iconst 2, 1) := dGR_45_lawrows_1298.2.2.2.2.1
theorem dL_law_899 : decode cL_law 899 = .ok (.iadd, 1) := dGR_45_lawrows_1298.2.2.2.2.2.1
theorem dL_law_900 : decode cL_law 900 = .ok (.iaload, 1) := dGR_45_lawrows_1298.2.2.2.2.2.2.1
theorem dL_law_901 : decode cL_law 901 = .ok (.aload_n 0, 1) := dGR_45_lawrows_1298.2.2.2.2.2.2.2.1
theorem dL_law_902 : decode cL_law 902 = .ok (.iload_n 3, 1) := dGR_45_lawrows_1298.2.2.2.2.2.2.2.2.1
theorem dL_law_903 : decode cL_law 903 = .ok (.iconst 3, 1) := dGR_45_lawrows_1298.2.2.2.2.2.2.2.2.2.1
theorem dL_law_904 : decode cL_law 904 = .ok (.iadd, 1) := dGR_45_lawrows_1298.2.2.2.2.2.2.2.2.2.2.1
theorem dL_law_905 : decode cL_law 905 = .ok (.iaload, 1) := dGR_45_lawrows_1298.2.2.2.2.2.2.2.2.2.2.2
set_option maxRecDepth 100000 in
theorem dGR_45_lawrows_1299 : (decode cL_law 906 = .ok (.ifCond .eq 7, 3)) ∧ (decode cL_law 909 = .ok (.iconst 1, 1)) ∧ (decode cL_law 910 = .ok (.goto 4, 3)) ∧ (decode cL_law 913 = .ok (.iconst 0, 1)) ∧ (decode cL_law 914 = .ok (.invokevirtual 93, 3)) ∧ (decode cL_law 917 = .ok (.pop, 1)) ∧ (decode cL_law 918 = .ok (.goto 1132, 3)) ∧ (decode cL_law 921 = .ok (.aload_n 1, 1)) ∧ (decode cL_law 922 = .ok (.aload_n 0, 1)) ∧ (decode cL_law 923 = .ok (.iload_n 3, 1)) ∧ (decode cL_law 924 = .ok (.iconst 1, 1)) ∧ (decode cL_law 925 = .ok (.iadd, 1)) := by decide +kernel
theorem dL_law_906 : decode cL_law 906 = .ok (.ifCond .eq 7, 3) := dGR_45_lawrows_1299.1
theorem dL_law_909 : decode cL_law 909 = .ok (.iconst 1, 1) := dGR_45_lawrows_1299.2.1
theorem dL_law_910 : decode cL_law 910 = .ok (.goto 4, 3) := dGR_45_lawrows_1299.2.2.1
theorem dL_law_913 : decode cL_law 913 = .ok (.iconst 0, 1) := dGR_45_lawrows_1299.2.2.2.1
theorem dL_law_914 : decode cL_law 914 = .ok (.invokevirtual 93, 3) := dGR_45_lawrows_1299.2.2.2.2.1
theorem dL_law_917 : decode cL_law 917 = .ok (.pop, 1) := dGR_45_lawrows_1299.2.2.2.2.2.1
theorem dL_law_918 : decode cL_law 918 = .ok (.goto 1132, 3) := dGR_45_lawrows_1299.2.2.2.2.2.2.1
theorem dL_law_921 : decode cL_law 921 = .ok (.aload_n 1, 1) := dGR_45_lawrows_1299.2.2.2.2.2.2.2.1
theorem dL_law_922 : decode cL_law 922 = .ok (.aload_n 0, 1) := dGR_45_lawrows_1299.2.2.2.2.2.2.2.2.1
theorem dL_law_923 : decode cL_law 923 = .ok (.iload_n 3, 1) := dGR_45_lawrows_1299.2.2.2.2.2.2.2.2.2.1
theorem dL_law_924 : decode cL_law 924 = .ok (.iconst 1, 1) := dGR_45_lawrows_1299.2.2.2.2.2.2.2.2.2.2.1
theorem dL_law_925 : decode cL_law 925 = .ok (.iadd, 1) := dGR_45_lawrows_1299.2.2.2.2.2.2.2.2.2.2.2
set_option maxRecDepth 100000 in
theorem dGR_45_lawrows_1300 : (decode cL_law 926 = .ok (.iaload, 1)) ∧ (decode cL_law 927 = .ok (.aload_n 0, 1)) ∧ (decode cL_law 928 = .ok (.iload_n 3, 1)) ∧ (decode cL_law 929 = .ok (.iconst 2, 1)) ∧ (decode cL_law 930 = .ok (.iadd, 1)) ∧ (decode cL_law 931 = .ok (.iaload, 1)) ∧ (decode cL_law 932 = .ok (.invokevirtual 94, 3)) ∧ (decode cL_law 935 = .ok (.pop, 1)) ∧ (decode cL_law 936 = .ok (.aload_n 2, 1)) ∧ (decode cL_law 937 = .ok (.aload_n 0, 1)) ∧ (decode cL_law 938 = .ok (.iload_n 3, 1)) ∧ (decode cL_law 939 = .ok (.iconst 1, 1)) := by decide +kernel
theorem dL_law_926 : decode cL_law 926 = .ok (.iaload, 1) := dGR_45_lawrows_1300.1
theorem dL_law_927 : decode cL_law 927 = .ok (.aload_n 0, 1) := dGR_45_lawrows_1300.2.1
theorem dL_law_928 : decode cL_law 928 = .ok (.iload_n 3, 1) := dGR_45_lawrows_1300.2.2.1
theorem dL_law_929 : decode cL_law 929 = .ok (.iconst 2, 1) := dGR_45_lawrows_1300.2.2.2.1
theorem dL_law_930 : decode cL_law 930 = .ok (.iadd, 1) := dGR_45_lawrows_1300.2.2.2.2.1
theorem dL_law_931 : decode cL_law 931 = .ok (.iaload, 1) := dGR_45_lawrows_1300.2.2.2.2.2.1
theorem dL_law_932 : decode cL_law 932 = .ok (.invokevirtual 94, 3) := dGR_45_lawrows_1300.2.2.2.2.2.2.1
theorem dL_law_935 : decode cL_law 935 = .ok (.pop, 1) := dGR_45_lawrows_1300.2.2.2.2.2.2.2.1
theorem dL_law_936 : decode cL_law 936 = .ok (.aload_n 2, 1) := dGR_45_lawrows_1300.2.2.2.2.2.2.2.2.1
theorem dL_law_937 : decode cL_law 937 = .ok (.aload_n 0, 1) := dGR_45_lawrows_1300.2.2.2.2.2.2.2.2.2.1
theorem dL_law_938 : decode cL_law 938 = .ok (.iload_n 3, 1) := dGR_45_lawrows_1300.2.2.2.2.2.2.2.2.2.2.1
theorem dL_law_939 : decode cL_law 939 = .ok (.iconst 1, 1) := dGR_45_lawrows_1300.2.2.2.2.2.2.2.2.2.2.2
set_option maxRecDepth 100000 in
theorem dGR_45_lawrows_1301 : (decode cL_law 940 = .ok (.iadd, 1)) ∧ (decode cL_law 941 = .ok (.iaload, 1)) ∧ (decode cL_law 942 = .ok (.aload_n 0, 1)) ∧ (decode cL_law 943 = .ok (.iload_n 3, 1)) ∧ (decode cL_law 944 = .ok (.iconst 2, 1)) ∧ (decode cL_law 945 = .ok (.iadd, 1)) ∧ (decode cL_law 946 = .ok (.iaload, 1)) ∧ (decode cL_law 947 = .ok (.invokevirtual 98, 3)) ∧ (decode cL_law 950 = .ok (.pop, 1)) ∧ (decode cL_law 951 = .ok (.goto 1099, 3)) ∧ (decode cL_law 954 = .ok (.aload_n 1, 1)) ∧ (decode cL_law 955 = .ok (.aload_n 0, 1)) := by decide +kernel
theorem dL_law_940 : decode cL_law 940 = .ok (.iadd, 1) := dGR_45_lawrows_1301.1
theorem dL_law_941 : decode cL_law 941 = .ok (.iaload, 1) := dGR_45_lawrows_1301.2.1
theorem dL_law_942 : decode cL_law 942 = .ok (.aload_n 0, 1) := dGR_45_lawrows_1301.2.2.1
theorem dL_law_943 : decode cL_law 943 = .ok (.iload_n 3, 1) := dGR_45_lawrows_1301.2.2.2.1
theorem dL_law_944 : decode cL_law 944 = .ok (.iconst 2, 1) := dGR_45_lawrows_1301.2.2.2.2.1
theorem dL_law_945 : decode cL_law 945 = .ok (.iadd, 1) := dGR_45_lawrows_1301.2.2.2.2.2.1
theorem dL_law_946 : decode cL_law 946 = .ok (.iaload, 1) := dGR_45_lawrows_1301.2.2.2.2.2.2.1
theorem dL_law_947 : decode cL_law 947 = .ok (.invokevirtual 98, 3) := dGR_45_lawrows_1301.2.2.2.2.2.2.2.1
theorem dL_law_950 : decode cL_law 950 = .ok (.pop, 1) := dGR_45_lawrows_1301.2.2.2.2.2.2.2.2.1
theorem dL_law_951 : decode cL_law 951 = .ok (.goto 1099, 3) := dGR_45_lawrows_1301.2.2.2.2.2.2.2.2.2.1
theorem dL_law_954 : decode cL_law 954 = .ok (.aload_n 1, 1) := dGR_45_lawrows_1301.2.2.2.2.2.2.2.2.2.2.1
theorem dL_law_955 : decode cL_law 955 = .ok (.aload_n 0, 1) := dGR_45_lawrows_1301.2.2.2.2.2.2.2.2.2.2.2
set_option maxRecDepth 100000 in
theorem dGR_45_lawrows_1302 : (decode cL_law 956 = .ok (.iload_n 3, 1)) ∧ (decode cL_law 957 = .ok (.iconst 1, 1)) ∧ (decode cL_law 958 = .ok (.iadd, 1)) ∧ (decode cL_law 959 = .ok (.iaload, 1)) ∧ (decode cL_law 960 = .ok (.aload_n 0, 1)) ∧ (decode cL_law 961 = .ok (.iload_n 3, 1)) ∧ (decode cL_law 962 = .ok (.iconst 2, 1)) ∧ (decode cL_law 963 = .ok (.iadd, 1)) ∧ (decode cL_law 964 = .ok (.iaload, 1)) ∧ (decode cL_law 965 = .ok (.aload_n 0, 1)) ∧ (decode cL_law 966 = .ok (.iload_n 3, 1)) ∧ (decode cL_law 967 = .ok (.iconst 3, 1)) := by decide +kernel
theorem dL_law_956 : decode cL_law 956 = .ok (.iload_n 3, 1) := dGR_45_lawrows_1302.1
theorem dL_law_957 : decode cL_law 957 = .ok (.iconst 1, 1) := dGR_45_lawrows_1302.2.1
theorem dL_law_958 : decode cL_law 958 = .ok (.iadd, 1) := dGR_45_lawrows_1302.2.2.1
theorem dL_law_959 : decode cL_law 959 = .ok (.iaload, 1) := dGR_45_lawrows_1302.2.2.2.1
theorem dL_law_960 : decode cL_law 960 = .ok (.aload_n 0, 1) := dGR_45_lawrows_1302.2.2.2.2.1
theorem dL_law_961 : decode cL_law 961 = .ok (.iload_n 3, 1) := dGR_45_lawrows_1302.2.2.2.2.2.1
theorem dL_law_962 : decode cL_law 962 = .ok (.iconst 2, 1) := dGR_45_lawrows_1302.2.2.2.2.2.2.1
theorem dL_law_963 : decode cL_law 963 = .ok (.iadd, 1) := dGR_45_lawrows_1302.2.2.2.2.2.2.2.1
theorem dL_law_964 : decode cL_law 964 = .ok (.iaload, 1) := dGR_45_lawrows_1302.2.2.2.2.2.2.2.2.1
theorem dL_law_965 : decode cL_law 965 = .ok (.aload_n 0, 1) := dGR_45_lawrows_1302.2.2.2.2.2.2.2.2.2.1
theorem dL_law_966 : decode cL_law 966 = .ok (.iload_n 3, 1) := dGR_45_lawrows_1302.2.2.2.2.2.2.2.2.2.2.1
theorem dL_law_967 : decode cL_law 967 = .ok (.iconst 3, 1) := dGR_45_lawrows_1302.2.2.2.2.2.2.2.2.2.2.2
set_option maxRecDepth 100000 in
theorem dGR_45_lawrows_1303 : (decode cL_law 968 = .ok (.iadd, 1)) ∧ (decode cL_law 969 = .ok (.iaload, 1)) ∧ (decode cL_law 970 = .ok (.invokevirtual 99, 3)) ∧ (decode cL_law 973 = .ok (.pop, 1)) ∧ (decode cL_law 974 = .ok (.aload_n 2, 1)) ∧ (decode cL_law 975 = .ok (.aload_n 0, 1)) ∧ (decode cL_law 976 = .ok (.iload_n 3, 1)) ∧ (decode cL_law 977 = .ok (.iconst 1, 1)) ∧ (decode cL_law 978 = .ok (.iadd, 1)) ∧ (decode cL_law 979 = .ok (.iaload, 1)) ∧ (decode cL_law 980 = .ok (.aload_n 0, 1)) ∧ (decode cL_law 981 = .ok (.iload_n 3, 1)) := by decide +kernel
theorem dL_law_968 : decode cL_law 968 = .ok (.iadd, 1) := dGR_45_lawrows_1303.1
theorem dL_law_969 : decode cL_law 969 = .ok (.iaload, 1) := dGR_45_lawrows_1303.2.1
theorem dL_law_970 : decode cL_law 970 = .ok (.invokevirtual 99, 3) := dGR_45_lawrows_1303.2.2.1
theorem dL_law_973 : decode cL_law 973 = .ok (.pop, 1) := dGR_45_lawrows_1303.2.2.2.1
theorem dL_law_974 : decode cL_law 974 = .ok (.aload_n 2, 1) := dGR_45_lawrows_1303.2.2.2.2.1
theorem dL_law_975 : decode cL_law 975 = .ok (.aload_n 0, 1) := dGR_45_lawrows_1303.2.2.2.2.2.1
theorem dL_law_976 : decode cL_law 976 = .ok (.iload_n 3, 1) := dGR_45_lawrows_1303.2.2.2.2.2.2.1
theorem dL_law_977 : decode cL_law 977 = .ok (.iconst 1, 1) := dGR_45_lawrows_1303.2.2.2.2.2.2.2.1
theorem dL_law_978 : decode cL_law 978 = .ok (.iadd, 1) := dGR_45_lawrows_1303.2.2.2.2.2.2.2.2.1
theorem dL_law_979 : decode cL_law 979 = .ok (.iaload, 1) := dGR_45_lawrows_1303.2.2.2.2.2.2.2.2.2.1
theorem dL_law_980 : decode cL_law 980 = .ok (.aload_n 0, 1) := dGR_45_lawrows_1303.2.2.2.2.2.2.2.2.2.2.1
theorem dL_law_981 : decode cL_law 981 = .ok (.iload_n 3, 1) := dGR_45_lawrows_1303.2.2.2.2.2.2.2.2.2.2.2
set_option maxRecDepth 100000 in
theorem dGR_45_lawrows_1304 : (decode cL_law 982 = .ok (.iconst 2, 1)) ∧ (decode cL_law 983 = .ok (.iadd, 1)) ∧ (decode cL_law 984 = .ok (.iaload, 1)) ∧ (decode cL_law 985 = .ok (.aload_n 0, 1)) ∧ (decode cL_law 986 = .ok (.iload_n 3, 1)) ∧ (decode cL_law 987 = .ok (.iconst 3, 1)) ∧ (decode cL_law 988 = .ok (.iadd, 1)) ∧ (decode cL_law 989 = .ok (.iaload, 1)) ∧ (decode cL_law 990 = .ok (.invokevirtual 102, 3)) ∧ (decode cL_law 993 = .ok (.pop, 1)) ∧ (decode cL_law 994 = .ok (.goto 1056, 3)) ∧ (decode cL_law 997 = .ok (.aload_n 1, 1)) := by decide +kernel
theorem dL_law_982 : decode cL_law 982 = .ok (.iconst 2, 1) := dGR_45_lawrows_1304.1
theorem dL_law_983 : decode cL_law 983 = .ok (.iadd, 1) := dGR_45_lawrows_1304.2.1
theorem dL_law_984 : decode cL_law 984 = .ok (.iaload, 1) := dGR_45_lawrows_1304.2.2.1
theorem dL_law_985 : decode cL_law 985 = .ok (.aload_n 0, 1) := dGR_45_lawrows_1304.2.2.2.1
theorem dL_law_986 : decode cL_law 986 = .ok (.iload_n 3, 1) := dGR_45_lawrows_1304.2.2.2.2.1
theorem dL_law_987 : decode cL_law 987 = .ok (.iconst 3, 1) := dGR_45_lawrows_1304.2.2.2.2.2.1
theorem dL_law_988 : decode cL_law 988 = .ok (.iadd, 1) := dGR_45_lawrows_1304.2.2.2.2.2.2.1
theorem dL_law_989 : decode cL_law 989 = .ok (.iaload, 1) := dGR_45_lawrows_1304.2.2.2.2.2.2.2.1
theorem dL_law_990 : decode cL_law 990 = .ok (.invokevirtual 102, 3) := dGR_45_lawrows_1304.2.2.2.2.2.2.2.2.1
theorem dL_law_993 : decode cL_law 993 = .ok (.pop, 1) := dGR_45_lawrows_1304.2.2.2.2.2.2.2.2.2.1
theorem dL_law_994 : decode cL_law 994 = .ok (.goto 1056, 3) := dGR_45_lawrows_1304.2.2.2.2.2.2.2.2.2.2.1
theorem dL_law_997 : decode cL_law 997 = .ok (.aload_n 1, 1) := dGR_45_lawrows_1304.2.2.2.2.2.2.2.2.2.2.2
set_option maxRecDepth 100000 in
theorem dGR_45_lawrows_1305 : (decode cL_law 998 = .ok (.aload_n 0, 1)) ∧ (decode cL_law 999 = .ok (.iload_n 3, 1)) ∧ (decode cL_law 1000 = .ok (.iconst 1, 1)) ∧ (decode cL_law 1001 = .ok (.iadd, 1)) ∧ (decode cL_law 1002 = .ok (.iaload, 1)) ∧ (decode cL_law 1003 = .ok (.aload_n 0, 1)) ∧ (decode cL_law 1004 = .ok (.iload_n 3, 1)) ∧ (decode cL_law 1005 = .ok (.iconst 2, 1)) ∧ (decode cL_law 1006 = .ok (.iadd, 1)) ∧ (decode cL_law 1007 = .ok (.iaload, 1)) ∧ (decode cL_law 1008 = .ok (.aload_n 0, 1)) ∧ (decode cL_law 1009 = .ok (.iload_n 3, 1)) := by decide +kernel
theorem dL_law_998 : decode cL_law 998 = .ok (.aload_n 0, 1) := dGR_45_lawrows_1305.1
theorem dL_law_999 : decode cL_law 999 = .ok (.iload_n 3, 1) := dGR_45_lawrows_1305.2.1
theorem dL_law_1000 : decode cL_law 1000 = .ok (.iconst 1, 1) := dGR_45_lawrows_1305.2.2.1
theorem dL_law_1001 : decode cL_law 1001 = .ok (.iadd, 1) := dGR_45_lawrows_1305.2.2.2.1
theorem dL_law_1002 : decode cL_law 1002 = .ok (.iaload, 1) := dGR_45_lawrows_1305.2.2.2.2.1
theorem dL_law_1003 : decode cL_law 1003 = .ok (.aload_n 0, 1) := dGR_45_lawrows_1305.2.2.2.2.2.1
theorem dL_law_1004 : decode cL_law 1004 = .ok (.iload_n 3, 1) := dGR_45_lawrows_1305.2.2.2.2.2.2.1
theorem dL_law_1005 : decode cL_law 1005 = .ok (.iconst 2, 1) := dGR_45_lawrows_1305.2.2.2.2.2.2.2.1
theorem dL_law_1006 : decode cL_law 1006 = .ok (.iadd, 1) := dGR_45_lawrows_1305.2.2.2.2.2.2.2.2.1
theorem dL_law_1007 : decode cL_law 1007 = .ok (.iaload, 1) := dGR_45_lawrows_1305.2.2.2.2.2.2.2.2.2.1
theorem dL_law_1008 : decode cL_law 1008 = .ok (.aload_n 0, 1) := dGR_45_lawrows_1305.2.2.2.2.2.2.2.2.2.2.1
theorem dL_law_1009 : decode cL_law 1009 = .ok (.iload_n 3, 1) := dGR_45_lawrows_1305.2.2.2.2.2.2.2.2.2.2.2
set_option maxRecDepth 100000 in
theorem dGR_45_lawrows_1306 : (decode cL_law 1010 = .ok (.iconst 3, 1)) ∧ (decode cL_law 1011 = .ok (.iadd, 1)) ∧ (decode cL_law 1012 = .ok (.iaload, 1)) ∧ (decode cL_law 1013 = .ok (.invokevirtual 103, 3)) ∧ (decode cL_law 1016 = .ok (.pop, 1)) ∧ (decode cL_law 1017 = .ok (.aload_n 2, 1)) ∧ (decode cL_law 1018 = .ok (.aload_n 0, 1)) ∧ (decode cL_law 1019 = .ok (.iload_n 3, 1)) ∧ (decode cL_law 1020 = .ok (.iconst 1, 1)) ∧ (decode cL_law 1021 = .ok (.iadd, 1)) ∧ (decode cL_law 1022 = .ok (.iaload, 1)) ∧ (decode cL_law 1023 = .ok (.aload_n 0, 1)) := by decide +kernel
theorem dL_law_1010 : decode cL_law 1010 = .ok (.iconst 3, 1) := dGR_45_lawrows_1306.1
theorem dL_law_1011 : decode cL_law 1011 = .ok (.iadd, 1) := dGR_45_lawrows_1306.2.1
theorem dL_law_1012 : decode cL_law 1012 = .ok (.iaload, 1) := dGR_45_lawrows_1306.2.2.1
theorem dL_law_1013 : decode cL_law 1013 = .ok (.invokevirtual 103, 3) := dGR_45_lawrows_1306.2.2.2.1
theorem dL_law_1016 : decode cL_law 1016 = .ok (.pop, 1) := dGR_45_lawrows_1306.2.2.2.2.1
theorem dL_law_1017 : decode cL_law 1017 = .ok (.aload_n 2, 1) := dGR_45_lawrows_1306.2.2.2.2.2.1
theorem dL_law_1018 : decode cL_law 1018 = .ok (.aload_n 0, 1) := dGR_45_lawrows_1306.2.2.2.2.2.2.1
theorem dL_law_1019 : decode cL_law 1019 = .ok (.iload_n 3, 1) := dGR_45_lawrows_1306.2.2.2.2.2.2.2.1
theorem dL_law_1020 : decode cL_law 1020 = .ok (.iconst 1, 1) := dGR_45_lawrows_1306.2.2.2.2.2.2.2.2.1
theorem dL_law_1021 : decode cL_law 1021 = .ok (.iadd, 1) := dGR_45_lawrows_1306.2.2.2.2.2.2.2.2.2.1
theorem dL_law_1022 : decode cL_law 1022 = .ok (.iaload, 1) := dGR_45_lawrows_1306.2.2.2.2.2.2.2.2.2.2.1
theorem dL_law_1023 : decode cL_law 1023 = .ok (.aload_n 0, 1) := dGR_45_lawrows_1306.2.2.2.2.2.2.2.2.2.2.2
set_option maxRecDepth 100000 in
theorem dGR_45_lawrows_1307 : (decode cL_law 1024 = .ok (.iload_n 3, 1)) ∧ (decode cL_law 1025 = .ok (.iconst 2, 1)) ∧ (decode cL_law 1026 = .ok (.iadd, 1)) ∧ (decode cL_law 1027 = .ok (.iaload, 1)) ∧ (decode cL_law 1028 = .ok (.aload_n 0, 1)) ∧ (decode cL_law 1029 = .ok (.iload_n 3, 1)) ∧ (decode cL_law 1030 = .ok (.iconst 3, 1)) ∧ (decode cL_law 1031 = .ok (.iadd, 1)) ∧ (decode cL_law 1032 = .ok (.iaload, 1)) ∧ (decode cL_law 1033 = .ok (.invokevirtual 106, 3)) ∧ (decode cL_law 1036 = .ok (.pop, 1)) ∧ (decode cL_law 1037 = .ok (.goto 1013, 3)) := by decide +kernel
theorem dL_law_1024 : decode cL_law 1024 = .ok (.iload_n 3, 1) := dGR_45_lawrows_1307.1
theorem dL_law_1025 : decode cL_law 1025 = .ok (.iconst 2, 1) := dGR_45_lawrows_1307.2.1
theorem dL_law_1026 : decode cL_law 1026 = .ok (.iadd, 1) := dGR_45_lawrows_1307.2.2.1
theorem dL_law_1027 : decode cL_law 1027 = .ok (.iaload, 1) := dGR_45_lawrows_1307.2.2.2.1
theorem dL_law_1028 : decode cL_law 1028 = .ok (.aload_n 0, 1) := dGR_45_lawrows_1307.2.2.2.2.1
theorem dL_law_1029 : decode cL_law 1029 = .ok (.iload_n 3, 1) := dGR_45_lawrows_1307.2.2.2.2.2.1
theorem dL_law_1030 : decode cL_law 1030 = .ok (.iconst 3, 1) := dGR_45_lawrows_1307.2.2.2.2.2.2.1
theorem dL_law_1031 : decode cL_law 1031 = .ok (.iadd, 1) := dGR_45_lawrows_1307.2.2.2.2.2.2.2.1
theorem dL_law_1032 : decode cL_law 1032 = .ok (.iaload, 1) := dGR_45_lawrows_1307.2.2.2.2.2.2.2.2.1
theorem dL_law_1033 : decode cL_law 1033 = .ok (.invokevirtual 106, 3) := dGR_45_lawrows_1307.2.2.2.2.2.2.2.2.2.1
theorem dL_law_1036 : decode cL_law 1036 = .ok (.pop, 1) := dGR_45_lawrows_1307.2.2.2.2.2.2.2.2.2.2.1
theorem dL_law_1037 : decode cL_law 1037 = .ok (.goto 1013, 3) := dGR_45_lawrows_1307.2.2.2.2.2.2.2.2.2.2.2
set_option maxRecDepth 100000 in
theorem dGR_45_lawrows_1308 : (decode cL_law 1040 = .ok (.aload_n 1, 1)) ∧ (decode cL_law 1041 = .ok (.aload_n 0, 1)) ∧ (decode cL_law 1042 = .ok (.iload_n 3, 1)) ∧ (decode cL_law 1043 = .ok (.iconst 1, 1)) ∧ (decode cL_law 1044 = .ok (.iadd, 1)) ∧ (decode cL_law 1045 = .ok (.iaload, 1)) ∧ (decode cL_law 1046 = .ok (.aload_n 0, 1)) ∧ (decode cL_law 1047 = .ok (.iload_n 3, 1)) ∧ (decode cL_law 1048 = .ok (.iconst 2, 1)) ∧ (decode cL_law 1049 = .ok (.iadd, 1)) ∧ (decode cL_law 1050 = .ok (.iaload, 1)) ∧ (decode cL_law 1051 = .ok (.aload_n 0, 1)) := by decide +kernel
theorem dL_law_1040 : decode cL_law 1040 = .ok (.aload_n 1, 1) := dGR_45_lawrows_1308.1
theorem dL_law_1041 : decode cL_law 1041 = .ok (.aload_n 0, 1) := dGR_45_lawrows_1308.2.1
theorem dL_law_1042 : decode cL_law 1042 = .ok (.iload_n 3, 1) := dGR_45_lawrows_1308.2.2.1
theorem dL_law_1043 : decode cL_law 1043 = .ok (.iconst 1, 1) := dGR_45_lawrows_1308.2.2.2.1
theorem dL_law_1044 : decode cL_law 1044 = .ok (.iadd, 1) := dGR_45_lawrows_1308.2.2.2.2.1
theorem dL_law_1045 : decode cL_law 1045 = .ok (.iaload, 1) := dGR_45_lawrows_1308.2.2.2.2.2.1
theorem dL_law_1046 : decode cL_law 1046 = .ok (.aload_n 0, 1) := dGR_45_lawrows_1308.2.2.2.2.2.2.1
theorem dL_law_1047 : decode cL_law 1047 = .ok (.iload_n 3, 1) := dGR_45_lawrows_1308.2.2.2.2.2.2.2.1
theorem dL_law_1048 : decode cL_law 1048 = .ok (.iconst 2, 1) := dGR_45_lawrows_1308.2.2.2.2.2.2.2.2.1
theorem dL_law_1049 : decode cL_law 1049 = .ok (.iadd, 1) := dGR_45_lawrows_1308.2.2.2.2.2.2.2.2.2.1
theorem dL_law_1050 : decode cL_law 1050 = .ok (.iaload, 1) := dGR_45_lawrows_1308.2.2.2.2.2.2.2.2.2.2.1
theorem dL_law_1051 : decode cL_law 1051 = .ok (.aload_n 0, 1) := dGR_45_lawrows_1308.2.2.2.2.2.2.2.2.2.2.2
set_option maxRecDepth 100000 in
theorem dGR_45_lawrows_1309 : (decode cL_law 1052 = .ok (.iload_n 3, 1)) ∧ (decode cL_law 1053 = .ok (.iconst 3, 1)) ∧ (decode cL_law 1054 = .ok (.iadd, 1)) ∧ (decode cL_law 1055 = .ok (.iaload, 1)) ∧ (decode cL_law 1056 = .ok (.invokevirtual 107, 3)) ∧ (decode cL_law 1059 = .ok (.pop, 1)) ∧ (decode cL_law 1060 = .ok (.aload_n 2, 1)) ∧ (decode cL_law 1061 = .ok (.aload_n 0, 1)) ∧ (decode cL_law 1062 = .ok (.iload_n 3, 1)) ∧ (decode cL_law 1063 = .ok (.iconst 1, 1)) ∧ (decode cL_law 1064 = .ok (.iadd, 1)) ∧ (decode cL_law 1065 = .ok (.iaload, 1)) := by decide +kernel
theorem dL_law_1052 : decode cL_law 1052 = .ok (.iload_n 3, 1) := dGR_45_lawrows_1309.1
theorem dL_law_1053 : decode cL_law 1053 = .ok (.iconst 3, 1) := dGR_45_lawrows_1309.2.1
theorem dL_law_1054 : decode cL_law 1054 = .ok (.iadd, 1) := dGR_45_lawrows_1309.2.2.1
theorem dL_law_1055 : decode cL_law 1055 = .ok (.iaload, 1) := dGR_45_lawrows_1309.2.2.2.1
theorem dL_law_1056 : decode cL_law 1056 = .ok (.invokevirtual 107, 3) := dGR_45_lawrows_1309.2.2.2.2.1
theorem dL_law_1059 : decode cL_law 1059 = .ok (.pop, 1) := dGR_45_lawrows_1309.2.2.2.2.2.1
theorem dL_law_1060 : decode cL_law 1060 = .ok (.aload_n 2, 1) := dGR_45_lawrows_1309.2.2.2.2.2.2.1
theorem dL_law_1061 : decode cL_law 1061 = .ok (.aload_n 0, 1) := dGR_45_lawrows_1309.2.2.2.2.2.2.2.1
theorem dL_law_1062 : decode cL_law 1062 = .ok (.iload_n 3, 1) := dGR_45_lawrows_1309.2.2.2.2.2.2.2.2.1
theorem dL_law_1063 : decode cL_law 1063 = .ok (.iconst 1, 1) := dGR_45_lawrows_1309.2.2.2.2.2.2.2.2.2.1
theorem dL_law_1064 : decode cL_law 1064 = .ok (.iadd, 1) := dGR_45_lawrows_1309.2.2.2.2.2.2.2.2.2.2.1
theorem dL_law_1065 : decode cL_law 1065 = .ok (.iaload, 1) := dGR_45_lawrows_1309.2.2.2.2.2.2.2.2.2.2.2
set_option maxRecDepth 100000 in
theorem dGR_45_lawrows_1310 : (decode cL_law 1066 = .ok (.aload_n 0, 1)) ∧ (decode cL_law 1067 = .ok (.iload_n 3, 1)) ∧ (decode cL_law 1068 = .ok (.iconst 2, 1)) ∧ (decode cL_law 1069 = .ok (.iadd, 1)) ∧ (decode cL_law 1070 = .ok (.iaload, 1)) ∧ (decode cL_law 1071 = .ok (.aload_n 0, 1)) ∧ (decode cL_law 1072 = .ok (.iload_n 3, 1)) ∧ (decode cL_law 1073 = .ok (.iconst 3, 1)) ∧ (decode cL_law 1074 = .ok (.iadd, 1)) ∧ (decode cL_law 1075 = .ok (.iaload, 1)) ∧ (decode cL_law 1076 = .ok (.invokevirtual 110, 3)) ∧ (decode cL_law 1079 = .ok (.pop, 1)) := by decide +kernel
theorem dL_law_1066 : decode cL_law 1066 = .ok (.aload_n 0, 1) := dGR_45_lawrows_1310.1
theorem dL_law_1067 : decode cL_law 1067 = .ok (.iload_n 3, 1) := dGR_45_lawrows_1310.2.1
theorem dL_law_1068 : decode cL_law 1068 = .ok (.iconst 2, 1) := dGR_45_lawrows_1310.2.2.1
theorem dL_law_1069 : decode cL_law 1069 = .ok (.iadd, 1) := dGR_45_lawrows_1310.2.2.2.1
theorem dL_law_1070 : decode cL_law 1070 = .ok (.iaload, 1) := dGR_45_lawrows_1310.2.2.2.2.1
theorem dL_law_1071 : decode cL_law 1071 = .ok (.aload_n 0, 1) := dGR_45_lawrows_1310.2.2.2.2.2.1
theorem dL_law_1072 : decode cL_law 1072 = .ok (.iload_n 3, 1) := dGR_45_lawrows_1310.2.2.2.2.2.2.1
theorem dL_law_1073 : decode cL_law 1073 = .ok (.iconst 3, 1) := dGR_45_lawrows_1310.2.2.2.2.2.2.2.1
theorem dL_law_1074 : decode cL_law 1074 = .ok (.iadd, 1) := dGR_45_lawrows_1310.2.2.2.2.2.2.2.2.1
theorem dL_law_1075 : decode cL_law 1075 = .ok (.iaload, 1) := dGR_45_lawrows_1310.2.2.2.2.2.2.2.2.2.1
theorem dL_law_1076 : decode cL_law 1076 = .ok (.invokevirtual 110, 3) := dGR_45_lawrows_1310.2.2.2.2.2.2.2.2.2.2.1
theorem dL_law_1079 : decode cL_law 1079 = .ok (.pop, 1) := dGR_45_lawrows_1310.2.2.2.2.2.2.2.2.2.2.2
set_option maxRecDepth 100000 in
theorem dGR_45_lawrows_1311 : (decode cL_law 1080 = .ok (.goto 970, 3)) ∧ (decode cL_law 1083 = .ok (.aload_n 1, 1)) ∧ (decode cL_law 1084 = .ok (.aload_n 0, 1)) ∧ (decode cL_law 1085 = .ok (.iload_n 3, 1)) ∧ (decode cL_law 1086 = .ok (.iconst 1, 1)) ∧ (decode cL_law 1087 = .ok (.iadd, 1)) ∧ (decode cL_law 1088 = .ok (.iaload, 1)) ∧ (decode cL_law 1089 = .ok (.aload_n 0, 1)) ∧ (decode cL_law 1090 = .ok (.iload_n 3, 1)) ∧ (decode cL_law 1091 = .ok (.iconst 2, 1)) ∧ (decode cL_law 1092 = .ok (.iadd, 1)) ∧ (decode cL_law 1093 = .ok (.iaload, 1)) := by decide +kernel
theorem dL_law_1080 : decode cL_law 1080 = .ok (.goto 970, 3) := dGR_45_lawrows_1311.1
theorem dL_law_1083 : decode cL_law 1083 = .ok (.aload_n 1, 1) := dGR_45_lawrows_1311.2.1
theorem dL_law_1084 : decode cL_law 1084 = .ok (.aload_n 0, 1) := dGR_45_lawrows_1311.2.2.1
theorem dL_law_1085 : decode cL_law 1085 = .ok (.iload_n 3, 1) := dGR_45_lawrows_1311.2.2.2.1
theorem dL_law_1086 : decode cL_law 1086 = .ok (.iconst 1, 1) := dGR_45_lawrows_1311.2.2.2.2.1
theorem dL_law_1087 : decode cL_law 1087 = .ok (.iadd, 1) := dGR_45_lawrows_1311.2.2.2.2.2.1
theorem dL_law_1088 : decode cL_law 1088 = .ok (.iaload, 1) := dGR_45_lawrows_1311.2.2.2.2.2.2.1
theorem dL_law_1089 : decode cL_law 1089 = .ok (.aload_n 0, 1) := dGR_45_lawrows_1311.2.2.2.2.2.2.2.1
theorem dL_law_1090 : decode cL_law 1090 = .ok (.iload_n 3, 1) := dGR_45_lawrows_1311.2.2.2.2.2.2.2.2.1
theorem dL_law_1091 : decode cL_law 1091 = .ok (.iconst 2, 1) := dGR_45_lawrows_1311.2.2.2.2.2.2.2.2.2.1
theorem dL_law_1092 : decode cL_law 1092 = .ok (.iadd, 1) := dGR_45_lawrows_1311.2.2.2.2.2.2.2.2.2.2.1
theorem dL_law_1093 : decode cL_law 1093 = .ok (.iaload, 1) := dGR_45_lawrows_1311.2.2.2.2.2.2.2.2.2.2.2
set_option maxRecDepth 100000 in
theorem dGR_45_lawrows_1312 : (decode cL_law 1094 = .ok (.aload_n 0, 1)) ∧ (decode cL_law 1095 = .ok (.iload_n 3, 1)) ∧ (decode cL_law 1096 = .ok (.iconst 3, 1)) ∧ (decode cL_law 1097 = .ok (.iadd, 1)) ∧ (decode cL_law 1098 = .ok (.iaload, 1)) ∧ (decode cL_law 1099 = .ok (.invokevirtual 111, 3)) ∧ (decode cL_law 1102 = .ok (.pop, 1)) ∧ (decode cL_law 1103 = .ok (.aload_n 2, 1)) ∧ (decode cL_law 1104 = .ok (.aload_n 0, 1)) ∧ (decode cL_law 1105 = .ok (.iload_n 3, 1)) ∧ (decode cL_law 1106 = .ok (.iconst 1, 1)) ∧ (decode cL_law 1107 = .ok (.iadd, 1)) := by decide +kernel
theorem dL_law_1094 : decode cL_law 1094 = .ok (.aload_n 0, 1) := dGR_45_lawrows_1312.1
theorem dL_law_1095 : decode cL_law 1095 = .ok (.iload_n 3, 1) := dGR_45_lawrows_1312.2.1
theorem dL_law_1096 : decode cL_law 1096 = .ok (.iconst 3, 1) := dGR_45_lawrows_1312.2.2.1
theorem dL_law_1097 : decode cL_law 1097 = .ok (.iadd, 1) := dGR_45_lawrows_1312.2.2.2.1
theorem dL_law_1098 : decode cL_law 1098 = .ok (.iaload, 1) := dGR_45_lawrows_1312.2.2.2.2.1
theorem dL_law_1099 : decode cL_law 1099 = .ok (.invokevirtual 111, 3) := dGR_45_lawrows_1312.2.2.2.2.2.1
theorem dL_law_1102 : decode cL_law 1102 = .ok (.pop, 1) := dGR_45_lawrows_1312.2.2.2.2.2.2.1
theorem dL_law_1103 : decode cL_law 1103 = .ok (.aload_n 2, 1) := dGR_45_lawrows_1312.2.2.2.2.2.2.2.1
theorem dL_law_1104 : decode cL_law 1104 = .ok (.aload_n 0, 1) := dGR_45_lawrows_1312.2.2.2.2.2.2.2.2.1
theorem dL_law_1105 : decode cL_law 1105 = .ok (.iload_n 3, 1) := dGR_45_lawrows_1312.2.2.2.2.2.2.2.2.2.1
theorem dL_law_1106 : decode cL_law 1106 = .ok (.iconst 1, 1) := dGR_45_lawrows_1312.2.2.2.2.2.2.2.2.2.2.1
theorem dL_law_1107 : decode cL_law 1107 = .ok (.iadd, 1) := dGR_45_lawrows_1312.2.2.2.2.2.2.2.2.2.2.2
set_option maxRecDepth 100000 in
theorem dGR_45_lawrows_1313 : (decode cL_law 1108 = .ok (.iaload, 1)) ∧ (decode cL_law 1109 = .ok (.aload_n 0, 1)) ∧ (decode cL_law 1110 = .ok (.iload_n 3, 1)) ∧ (decode cL_law 1111 = .ok (.iconst 2, 1)) ∧ (decode cL_law 1112 = .ok (.iadd, 1)) ∧ (decode cL_law 1113 = .ok (.iaload, 1)) ∧ (decode cL_law 1114 = .ok (.aload_n 0, 1)) ∧ (decode cL_law 1115 = .ok (.iload_n 3, 1)) ∧ (decode cL_law 1116 = .ok (.iconst 3, 1)) ∧ (decode cL_law 1117 = .ok (.iadd, 1)) ∧ (decode cL_law 1118 = .ok (.iaload, 1)) ∧ (decode cL_law 1119 = .ok (.invokevirtual 114, 3)) := by decide +kernel
theorem dL_law_1108 : decode cL_law 1108 = .ok (.iaload, 1) := dGR_45_lawrows_1313.1
theorem dL_law_1109 : decode cL_law 1109 = .ok (.aload_n 0, 1) := dGR_45_lawrows_1313.2.1
theorem dL_law_1110 : decode cL_law 1110 = .ok (.iload_n 3, 1) := dGR_45_lawrows_1313.2.2.1
theorem dL_law_1111 : decode cL_law 1111 = .ok (.iconst 2, 1) := dGR_45_lawrows_1313.2.2.2.1
theorem dL_law_1112 : decode cL_law 1112 = .ok (.iadd, 1) := dGR_45_lawrows_1313.2.2.2.2.1
theorem dL_law_1113 : decode cL_law 1113 = .ok (.iaload, 1) := dGR_45_lawrows_1313.2.2.2.2.2.1
theorem dL_law_1114 : decode cL_law 1114 = .ok (.aload_n 0, 1) := dGR_45_lawrows_1313.2.2.2.2.2.2.1
theorem dL_law_1115 : decode cL_law 1115 = .ok (.iload_n 3, 1) := dGR_45_lawrows_1313.2.2.2.2.2.2.2.1
theorem dL_law_1116 : decode cL_law 1116 = .ok (.iconst 3, 1) := dGR_45_lawrows_1313.2.2.2.2.2.2.2.2.1
theorem dL_law_1117 : decode cL_law 1117 = .ok (.iadd, 1) := dGR_45_lawrows_1313.2.2.2.2.2.2.2.2.2.1
theorem dL_law_1118 : decode cL_law 1118 = .ok (.iaload, 1) := dGR_45_lawrows_1313.2.2.2.2.2.2.2.2.2.2.1
theorem dL_law_1119 : decode cL_law 1119 = .ok (.invokevirtual 114, 3) := dGR_45_lawrows_1313.2.2.2.2.2.2.2.2.2.2.2
set_option maxRecDepth 100000 in
theorem dGR_45_lawrows_1314 : (decode cL_law 1122 = .ok (.pop, 1)) ∧ (decode cL_law 1123 = .ok (.goto 927, 3)) ∧ (decode cL_law 1126 = .ok (.aload_n 1, 1)) ∧ (decode cL_law 1127 = .ok (.aload_n 0, 1)) ∧ (decode cL_law 1128 = .ok (.iload_n 3, 1)) ∧ (decode cL_law 1129 = .ok (.iconst 1, 1)) ∧ (decode cL_law 1130 = .ok (.iadd, 1)) ∧ (decode cL_law 1131 = .ok (.iaload, 1)) ∧ (decode cL_law 1132 = .ok (.aload_n 0, 1)) ∧ (decode cL_law 1133 = .ok (.iload_n 3, 1)) ∧ (decode cL_law 1134 = .ok (.iconst 2, 1)) ∧ (decode cL_law 1135 = .ok (.iadd, 1)) := by decide +kernel
theorem dL_law_1122 : decode cL_law 1122 = .ok (.pop, 1) := dGR_45_lawrows_1314.1
theorem dL_law_1123 : decode cL_law 1123 = .ok (.goto 927, 3) := dGR_45_lawrows_1314.2.1
theorem dL_law_1126 : decode cL_law 1126 = .ok (.aload_n 1, 1) := dGR_45_lawrows_1314.2.2.1
theorem dL_law_1127 : decode cL_law 1127 = .ok (.aload_n 0, 1) := dGR_45_lawrows_1314.2.2.2.1
theorem dL_law_1128 : decode cL_law 1128 = .ok (.iload_n 3, 1) := dGR_45_lawrows_1314.2.2.2.2.1
theorem dL_law_1129 : decode cL_law 1129 = .ok (.iconst 1, 1) := dGR_45_lawrows_1314.2.2.2.2.2.1
theorem dL_law_1130 : decode cL_law 1130 = .ok (.iadd, 1) := dGR_45_lawrows_1314.2.2.2.2.2.2.1
theorem dL_law_1131 : decode cL_law 1131 = .ok (.iaload, 1) := dGR_45_lawrows_1314.2.2.2.2.2.2.2.1
theorem dL_law_1132 : decode cL_law 1132 = .ok (.aload_n 0, 1) := dGR_45_lawrows_1314.2.2.2.2.2.2.2.2.1
theorem dL_law_1133 : decode cL_law 1133 = .ok (.iload_n 3, 1) := dGR_45_lawrows_1314.2.2.2.2.2.2.2.2.2.1
theorem dL_law_1134 : decode cL_law 1134 = .ok (.iconst 2, 1) := dGR_45_lawrows_1314.2.2.2.2.2.2.2.2.2.2.1
theorem dL_law_1135 : decode cL_law 1135 = .ok (.iadd, 1) := dGR_45_lawrows_1314.2.2.2.2.2.2.2.2.2.2.2
set_option maxRecDepth 100000 in
theorem dGR_45_lawrows_1315 : (decode cL_law 1136 = .ok (.iaload, 1)) ∧ (decode cL_law 1137 = .ok (.aload_n 0, 1)) ∧ (decode cL_law 1138 = .ok (.iload_n 3, 1)) ∧ (decode cL_law 1139 = .ok (.iconst 3, 1)) ∧ (decode cL_law 1140 = .ok (.iadd, 1)) ∧ (decode cL_law 1141 = .ok (.iaload, 1)) ∧ (decode cL_law 1142 = .ok (.invokevirtual 115, 3)) ∧ (decode cL_law 1145 = .ok (.pop, 1)) ∧ (decode cL_law 1146 = .ok (.aload_n 2, 1)) ∧ (decode cL_law 1147 = .ok (.aload_n 0, 1)) ∧ (decode cL_law 1148 = .ok (.iload_n 3, 1)) ∧ (decode cL_law 1149 = .ok (.iconst 1, 1)) := by decide +kernel
theorem dL_law_1136 : decode cL_law 1136 = .ok (.iaload, 1) := dGR_45_lawrows_1315.1
theorem dL_law_1137 : decode cL_law 1137 = .ok (.aload_n 0, 1) := dGR_45_lawrows_1315.2.1
theorem dL_law_1138 : decode cL_law 1138 = .ok (.iload_n 3, 1) := dGR_45_lawrows_1315.2.2.1
theorem dL_law_1139 : decode cL_law 1139 = .ok (.iconst 3, 1) := dGR_45_lawrows_1315.2.2.2.1
theorem dL_law_1140 : decode cL_law 1140 = .ok (.iadd, 1) := dGR_45_lawrows_1315.2.2.2.2.1
theorem dL_law_1141 : decode cL_law 1141 = .ok (.iaload, 1) := dGR_45_lawrows_1315.2.2.2.2.2.1
theorem dL_law_1142 : decode cL_law 1142 = .ok (.invokevirtual 115, 3) := dGR_45_lawrows_1315.2.2.2.2.2.2.1
theorem dL_law_1145 : decode cL_law 1145 = .ok (.pop, 1) := dGR_45_lawrows_1315.2.2.2.2.2.2.2.1
theorem dL_law_1146 : decode cL_law 1146 = .ok (.aload_n 2, 1) := dGR_45_lawrows_1315.2.2.2.2.2.2.2.2.1
theorem dL_law_1147 : decode cL_law 1147 = .ok (.aload_n 0, 1) := dGR_45_lawrows_1315.2.2.2.2.2.2.2.2.2.1
theorem dL_law_1148 : decode cL_law 1148 = .ok (.iload_n 3, 1) := dGR_45_lawrows_1315.2.2.2.2.2.2.2.2.2.2.1
theorem dL_law_1149 : decode cL_law 1149 = .ok (.iconst 1, 1) := dGR_45_lawrows_1315.2.2.2.2.2.2.2.2.2.2.2
set_option maxRecDepth 100000 in
theorem dGR_45_lawrows_1316 : (decode cL_law 1150 = .ok (.iadd, 1)) ∧ (decode cL_law 1151 = .ok (.iaload, 1)) ∧ (decode cL_law 1152 = .ok (.aload_n 0, 1)) ∧ (decode cL_law 1153 = .ok (.iload_n 3, 1)) ∧ (decode cL_law 1154 = .ok (.iconst 2, 1)) ∧ (decode cL_law 1155 = .ok (.iadd, 1)) ∧ (decode cL_law 1156 = .ok (.iaload, 1)) ∧ (decode cL_law 1157 = .ok (.aload_n 0, 1)) ∧ (decode cL_law 1158 = .ok (.iload_n 3, 1)) ∧ (decode cL_law 1159 = .ok (.iconst 3, 1)) ∧ (decode cL_law 1160 = .ok (.iadd, 1)) ∧ (decode cL_law 1161 = .ok (.iaload, 1)) := by decide +kernel
theorem dL_law_1150 : decode cL_law 1150 = .ok (.iadd, 1) := dGR_45_lawrows_1316.1
theorem dL_law_1151 : decode cL_law 1151 = .ok (.iaload, 1) := dGR_45_lawrows_1316.2.1
theorem dL_law_1152 : decode cL_law 1152 = .ok (.aload_n 0, 1) := dGR_45_lawrows_1316.2.2.1
theorem dL_law_1153 : decode cL_law 1153 = .ok (.iload_n 3, 1) := dGR_45_lawrows_1316.2.2.2.1
theorem dL_law_1154 : decode cL_law 1154 = .ok (.iconst 2, 1) := dGR_45_lawrows_1316.2.2.2.2.1
theorem dL_law_1155 : decode cL_law 1155 = .ok (.iadd, 1) := dGR_45_lawrows_1316.2.2.2.2.2.1
theorem dL_law_1156 : decode cL_law 1156 = .ok (.iaload, 1) := dGR_45_lawrows_1316.2.2.2.2.2.2.1
theorem dL_law_1157 : decode cL_law 1157 = .ok (.aload_n 0, 1) := dGR_45_lawrows_1316.2.2.2.2.2.2.2.1
theorem dL_law_1158 : decode cL_law 1158 = .ok (.iload_n 3, 1) := dGR_45_lawrows_1316.2.2.2.2.2.2.2.2.1
theorem dL_law_1159 : decode cL_law 1159 = .ok (.iconst 3, 1) := dGR_45_lawrows_1316.2.2.2.2.2.2.2.2.2.1
theorem dL_law_1160 : decode cL_law 1160 = .ok (.iadd, 1) := dGR_45_lawrows_1316.2.2.2.2.2.2.2.2.2.2.1
theorem dL_law_1161 : decode cL_law 1161 = .ok (.iaload, 1) := dGR_45_lawrows_1316.2.2.2.2.2.2.2.2.2.2.2
set_option maxRecDepth 100000 in
theorem dGR_45_lawrows_1317 : (decode cL_law 1162 = .ok (.invokevirtual 118, 3)) ∧ (decode cL_law 1165 = .ok (.pop, 1)) ∧ (decode cL_law 1166 = .ok (.goto 884, 3)) ∧ (decode cL_law 1169 = .ok (.aload_n 1, 1)) ∧ (decode cL_law 1170 = .ok (.aload_n 0, 1)) ∧ (decode cL_law 1171 = .ok (.iload_n 3, 1)) ∧ (decode cL_law 1172 = .ok (.iconst 1, 1)) ∧ (decode cL_law 1173 = .ok (.iadd, 1)) ∧ (decode cL_law 1174 = .ok (.iaload, 1)) ∧ (decode cL_law 1175 = .ok (.invokevirtual 119, 3)) ∧ (decode cL_law 1178 = .ok (.pop, 1)) ∧ (decode cL_law 1179 = .ok (.aload_n 2, 1)) := by decide +kernel
theorem dL_law_1162 : decode cL_law 1162 = .ok (.invokevirtual 118, 3) := dGR_45_lawrows_1317.1
theorem dL_law_1165 : decode cL_law 1165 = .ok (.pop, 1) := dGR_45_lawrows_1317.2.1
theorem dL_law_1166 : decode cL_law 1166 = .ok (.goto 884, 3) := dGR_45_lawrows_1317.2.2.1
theorem dL_law_1169 : decode cL_law 1169 = .ok (.aload_n 1, 1) := dGR_45_lawrows_1317.2.2.2.1
theorem dL_law_1170 : decode cL_law 1170 = .ok (.aload_n 0, 1) := dGR_45_lawrows_1317.2.2.2.2.1
theorem dL_law_1171 : decode cL_law 1171 = .ok (.iload_n 3, 1) := dGR_45_lawrows_1317.2.2.2.2.2.1
theorem dL_law_1172 : decode cL_law 1172 = .ok (.iconst 1, 1) := dGR_45_lawrows_1317.2.2.2.2.2.2.1
theorem dL_law_1173 : decode cL_law 1173 = .ok (.iadd, 1) := dGR_45_lawrows_1317.2.2.2.2.2.2.2.1
theorem dL_law_1174 : decode cL_law 1174 = .ok (.iaload, 1) := dGR_45_lawrows_1317.2.2.2.2.2.2.2.2.1
theorem dL_law_1175 : decode cL_law 1175 = .ok (.invokevirtual 119, 3) := dGR_45_lawrows_1317.2.2.2.2.2.2.2.2.2.1
theorem dL_law_1178 : decode cL_law 1178 = .ok (.pop, 1) := dGR_45_lawrows_1317.2.2.2.2.2.2.2.2.2.2.1
theorem dL_law_1179 : decode cL_law 1179 = .ok (.aload_n 2, 1) := dGR_45_lawrows_1317.2.2.2.2.2.2.2.2.2.2.2
set_option maxRecDepth 100000 in
theorem dGR_45_lawrows_1318 : (decode cL_law 1180 = .ok (.aload_n 0, 1)) ∧ (decode cL_law 1181 = .ok (.iload_n 3, 1)) ∧ (decode cL_law 1182 = .ok (.iconst 1, 1)) ∧ (decode cL_law 1183 = .ok (.iadd, 1)) ∧ (decode cL_law 1184 = .ok (.iaload, 1)) ∧ (decode cL_law 1185 = .ok (.invokevirtual 122, 3)) ∧ (decode cL_law 1188 = .ok (.pop, 1)) ∧ (decode cL_law 1189 = .ok (.goto 861, 3)) ∧ (decode cL_law 1192 = .ok (.aload_n 1, 1)) ∧ (decode cL_law 1193 = .ok (.aload_n 0, 1)) ∧ (decode cL_law 1194 = .ok (.iload_n 3, 1)) ∧ (decode cL_law 1195 = .ok (.iconst 1, 1)) := by decide +kernel
theorem dL_law_1180 : decode cL_law 1180 = .ok (.aload_n 0, 1) := dGR_45_lawrows_1318.1
theorem dL_law_1181 : decode cL_law 1181 = .ok (.iload_n 3, 1) := dGR_45_lawrows_1318.2.1
theorem dL_law_1182 : decode cL_law 1182 = .ok (.iconst 1, 1) := dGR_45_lawrows_1318.2.2.1
theorem dL_law_1183 : decode cL_law 1183 = .ok (.iadd, 1) := dGR_45_lawrows_1318.2.2.2.1
theorem dL_law_1184 : decode cL_law 1184 = .ok (.iaload, 1) := dGR_45_lawrows_1318.2.2.2.2.1
theorem dL_law_1185 : decode cL_law 1185 = .ok (.invokevirtual 122, 3) := dGR_45_lawrows_1318.2.2.2.2.2.1
theorem dL_law_1188 : decode cL_law 1188 = .ok (.pop, 1) := dGR_45_lawrows_1318.2.2.2.2.2.2.1
theorem dL_law_1189 : decode cL_law 1189 = .ok (.goto 861, 3) := dGR_45_lawrows_1318.2.2.2.2.2.2.2.1
theorem dL_law_1192 : decode cL_law 1192 = .ok (.aload_n 1, 1) := dGR_45_lawrows_1318.2.2.2.2.2.2.2.2.1
theorem dL_law_1193 : decode cL_law 1193 = .ok (.aload_n 0, 1) := dGR_45_lawrows_1318.2.2.2.2.2.2.2.2.2.1
theorem dL_law_1194 : decode cL_law 1194 = .ok (.iload_n 3, 1) := dGR_45_lawrows_1318.2.2.2.2.2.2.2.2.2.2.1
theorem dL_law_1195 : decode cL_law 1195 = .ok (.iconst 1, 1) := dGR_45_lawrows_1318.2.2.2.2.2.2.2.2.2.2.2
set_option maxRecDepth 100000 in
theorem dGR_45_lawrows_1319 : (decode cL_law 1196 = .ok (.iadd, 1)) ∧ (decode cL_law 1197 = .ok (.iaload, 1)) ∧ (decode cL_law 1198 = .ok (.aload_n 0, 1)) ∧ (decode cL_law 1199 = .ok (.iload_n 3, 1)) ∧ (decode cL_law 1200 = .ok (.iconst 2, 1)) ∧ (decode cL_law 1201 = .ok (.iadd, 1)) ∧ (decode cL_law 1202 = .ok (.iaload, 1)) ∧ (decode cL_law 1203 = .ok (.aload_n 0, 1)) ∧ (decode cL_law 1204 = .ok (.iload_n 3, 1)) ∧ (decode cL_law 1205 = .ok (.iconst 3, 1)) ∧ (decode cL_law 1206 = .ok (.iadd, 1)) ∧ (decode cL_law 1207 = .ok (.iaload, 1)) := by decide +kernel
theorem dL_law_1196 : decode cL_law 1196 = .ok (.iadd, 1) := dGR_45_lawrows_1319.1
theorem dL_law_1197 : decode cL_law 1197 = .ok (.iaload, 1) := dGR_45_lawrows_1319.2.1
theorem dL_law_1198 : decode cL_law 1198 = .ok (.aload_n 0, 1) := dGR_45_lawrows_1319.2.2.1
theorem dL_law_1199 : decode cL_law 1199 = .ok (.iload_n 3, 1) := dGR_45_lawrows_1319.2.2.2.1
theorem dL_law_1200 : decode cL_law 1200 = .ok (.iconst 2, 1) := dGR_45_lawrows_1319.2.2.2.2.1
theorem dL_law_1201 : decode cL_law 1201 = .ok (.iadd, 1) := dGR_45_lawrows_1319.2.2.2.2.2.1
theorem dL_law_1202 : decode cL_law 1202 = .ok (.iaload, 1) := dGR_45_lawrows_1319.2.2.2.2.2.2.1
theorem dL_law_1203 : decode cL_law 1203 = .ok (.aload_n 0, 1) := dGR_45_lawrows_1319.2.2.2.2.2.2.2.1
theorem dL_law_1204 : decode cL_law 1204 = .ok (.iload_n 3, 1) := dGR_45_lawrows_1319.2.2.2.2.2.2.2.2.1
theorem dL_law_1205 : decode cL_law 1205 = .ok (.iconst 3, 1) := dGR_45_lawrows_1319.2.2.2.2.2.2.2.2.2.1
theorem dL_law_1206 : decode cL_law 1206 = .ok (.iadd, 1) := dGR_45_lawrows_1319.2.2.2.2.2.2.2.2.2.2.1
theorem dL_law_1207 : decode cL_law 1207 = .ok (.iaload, 1) := dGR_45_lawrows_1319.2.2.2.2.2.2.2.2.2.2.2
set_option maxRecDepth 100000 in
theorem dGR_45_lawrows_1320 : (decode cL_law 1208 = .ok (.invokevirtual 123, 3)) ∧ (decode cL_law 1211 = .ok (.pop, 1)) ∧ (decode cL_law 1212 = .ok (.aload_n 2, 1)) ∧ (decode cL_law 1213 = .ok (.aload_n 0, 1)) ∧ (decode cL_law 1214 = .ok (.iload_n 3, 1)) ∧ (decode cL_law 1215 = .ok (.iconst 1, 1)) ∧ (decode cL_law 1216 = .ok (.iadd, 1)) ∧ (decode cL_law 1217 = .ok (.iaload, 1)) ∧ (decode cL_law 1218 = .ok (.aload_n 0, 1)) ∧ (decode cL_law 1219 = .ok (.iload_n 3, 1)) ∧ (decode cL_law 1220 = .ok (.iconst 2, 1)) ∧ (decode cL_law 1221 = .ok (.iadd, 1)) := by decide +kernel
theorem dL_law_1208 : decode cL_law 1208 = .ok (.invokevirtual 123, 3) := dGR_45_lawrows_1320.1
theorem dL_law_1211 : decode cL_law 1211 = .ok (.pop, 1) := dGR_45_lawrows_1320.2.1
theorem dL_law_1212 : decode cL_law 1212 = .ok (.aload_n 2, 1) := dGR_45_lawrows_1320.2.2.1
theorem dL_law_1213 : decode cL_law 1213 = .ok (.aload_n 0, 1) := dGR_45_lawrows_1320.2.2.2.1
theorem dL_law_1214 : decode cL_law 1214 = .ok (.iload_n 3, 1) := dGR_45_lawrows_1320.2.2.2.2.1
theorem dL_law_1215 : decode cL_law 1215 = .ok (.iconst 1, 1) := dGR_45_lawrows_1320.2.2.2.2.2.1
theorem dL_law_1216 : decode cL_law 1216 = .ok (.iadd, 1) := dGR_45_lawrows_1320.2.2.2.2.2.2.1
theorem dL_law_1217 : decode cL_law 1217 = .ok (.iaload, 1) := dGR_45_lawrows_1320.2.2.2.2.2.2.2.1
theorem dL_law_1218 : decode cL_law 1218 = .ok (.aload_n 0, 1) := dGR_45_lawrows_1320.2.2.2.2.2.2.2.2.1
theorem dL_law_1219 : decode cL_law 1219 = .ok (.iload_n 3, 1) := dGR_45_lawrows_1320.2.2.2.2.2.2.2.2.2.1
theorem dL_law_1220 : decode cL_law 1220 = .ok (.iconst 2, 1) := dGR_45_lawrows_1320.2.2.2.2.2.2.2.2.2.2.1
theorem dL_law_1221 : decode cL_law 1221 = .ok (.iadd, 1) := dGR_45_lawrows_1320.2.2.2.2.2.2.2.2.2.2.2
set_option maxRecDepth 100000 in
theorem dGR_45_lawrows_1321 : (decode cL_law 1222 = .ok (.iaload, 1)) ∧ (decode cL_law 1223 = .ok (.aload_n 0, 1)) ∧ (decode cL_law 1224 = .ok (.iload_n 3, 1)) ∧ (decode cL_law 1225 = .ok (.iconst 3, 1)) ∧ (decode cL_law 1226 = .ok (.iadd, 1)) ∧ (decode cL_law 1227 = .ok (.iaload, 1)) ∧ (decode cL_law 1228 = .ok (.invokevirtual 126, 3)) ∧ (decode cL_law 1231 = .ok (.pop, 1)) ∧ (decode cL_law 1232 = .ok (.goto 818, 3)) ∧ (decode cL_law 1235 = .ok (.aload_n 1, 1)) ∧ (decode cL_law 1236 = .ok (.aload_n 0, 1)) ∧ (decode cL_law 1237 = .ok (.iload_n 3, 1)) := by decide +kernel
theorem dL_law_1222 : decode cL_law 1222 = .ok (.iaload, 1) := dGR_45_lawrows_1321.1
theorem dL_law_1223 : decode cL_law 1223 = .ok (.aload_n 0, 1) := dGR_45_lawrows_1321.2.1
theorem dL_law_1224 : decode cL_law 1224 = .ok (.iload_n 3, 1) := dGR_45_lawrows_1321.2.2.1
theorem dL_law_1225 : decode cL_law 1225 = .ok (.iconst 3, 1) := dGR_45_lawrows_1321.2.2.2.1
theorem dL_law_1226 : decode cL_law 1226 = .ok (.iadd, 1) := dGR_45_lawrows_1321.2.2.2.2.1
theorem dL_law_1227 : decode cL_law 1227 = .ok (.iaload, 1) := dGR_45_lawrows_1321.2.2.2.2.2.1
theorem dL_law_1228 : decode cL_law 1228 = .ok (.invokevirtual 126, 3) := dGR_45_lawrows_1321.2.2.2.2.2.2.1
theorem dL_law_1231 : decode cL_law 1231 = .ok (.pop, 1) := dGR_45_lawrows_1321.2.2.2.2.2.2.2.1
theorem dL_law_1232 : decode cL_law 1232 = .ok (.goto 818, 3) := dGR_45_lawrows_1321.2.2.2.2.2.2.2.2.1
theorem dL_law_1235 : decode cL_law 1235 = .ok (.aload_n 1, 1) := dGR_45_lawrows_1321.2.2.2.2.2.2.2.2.2.1
theorem dL_law_1236 : decode cL_law 1236 = .ok (.aload_n 0, 1) := dGR_45_lawrows_1321.2.2.2.2.2.2.2.2.2.2.1
theorem dL_law_1237 : decode cL_law 1237 = .ok (.iload_n 3, 1) := dGR_45_lawrows_1321.2.2.2.2.2.2.2.2.2.2.2
set_option maxRecDepth 100000 in
theorem dGR_45_lawrows_1322 : (decode cL_law 1238 = .ok (.iconst 1, 1)) ∧ (decode cL_law 1239 = .ok (.iadd, 1)) ∧ (decode cL_law 1240 = .ok (.iaload, 1)) ∧ (decode cL_law 1241 = .ok (.aload_n 0, 1)) ∧ (decode cL_law 1242 = .ok (.iload_n 3, 1)) ∧ (decode cL_law 1243 = .ok (.iconst 2, 1)) ∧ (decode cL_law 1244 = .ok (.iadd, 1)) ∧ (decode cL_law 1245 = .ok (.iaload, 1)) ∧ (decode cL_law 1246 = .ok (.aload_n 0, 1)) ∧ (decode cL_law 1247 = .ok (.iload_n 3, 1)) ∧ (decode cL_law 1248 = .ok (.iconst 3, 1)) ∧ (decode cL_law 1249 = .ok (.iadd, 1)) := by decide +kernel
theorem dL_law_1238 : decode cL_law 1238 = .ok (.iconst 1, 1) := dGR_45_lawrows_1322.1
theorem dL_law_1239 : decode cL_law 1239 = .ok (.iadd, 1) := dGR_45_lawrows_1322.2.1
theorem dL_law_1240 : decode cL_law 1240 = .ok (.iaload, 1) := dGR_45_lawrows_1322.2.2.1
theorem dL_law_1241 : decode cL_law 1241 = .ok (.aload_n 0, 1) := dGR_45_lawrows_1322.2.2.2.1
theorem dL_law_1242 : decode cL_law 1242 = .ok (.iload_n 3, 1) := dGR_45_lawrows_1322.2.2.2.2.1
theorem dL_law_1243 : decode cL_law 1243 = .ok (.iconst 2, 1) := dGR_45_lawrows_1322.2.2.2.2.2.1
theorem dL_law_1244 : decode cL_law 1244 = .ok (.iadd, 1) := dGR_45_lawrows_1322.2.2.2.2.2.2.1
theorem dL_law_1245 : decode cL_law 1245 = .ok (.iaload, 1) := dGR_45_lawrows_1322.2.2.2.2.2.2.2.1
theorem dL_law_1246 : decode cL_law 1246 = .ok (.aload_n 0, 1) := dGR_45_lawrows_1322.2.2.2.2.2.2.2.2.1
theorem dL_law_1247 : decode cL_law 1247 = .ok (.iload_n 3, 1) := dGR_45_lawrows_1322.2.2.2.2.2.2.2.2.2.1
theorem dL_law_1248 : decode cL_law 1248 = .ok (.iconst 3, 1) := dGR_45_lawrows_1322.2.2.2.2.2.2.2.2.2.2.1
theorem dL_law_1249 : decode cL_law 1249 = .ok (.iadd, 1) := dGR_45_lawrows_1322.2.2.2.2.2.2.2.2.2.2.2
set_option maxRecDepth 100000 in
theorem dGR_45_lawrows_1323 : (decode cL_law 1250 = .ok (.iaload, 1)) ∧ (decode cL_law 1251 = .ok (.invokevirtual 127, 3)) ∧ (decode cL_law 1254 = .ok (.pop, 1)) ∧ (decode cL_law 1255 = .ok (.aload_n 2, 1)) ∧ (decode cL_law 1256 = .ok (.aload_n 0, 1)) ∧ (decode cL_law 1257 = .ok (.iload_n 3, 1)) ∧ (decode cL_law 1258 = .ok (.iconst 1, 1)) ∧ (decode cL_law 1259 = .ok (.iadd, 1)) ∧ (decode cL_law 1260 = .ok (.iaload, 1)) ∧ (decode cL_law 1261 = .ok (.aload_n 0, 1)) ∧ (decode cL_law 1262 = .ok (.iload_n 3, 1)) ∧ (decode cL_law 1263 = .ok (.iconst 2, 1)) := by decide +kernel
theorem dL_law_1250 : decode cL_law 1250 = .ok (.iaload, 1) := dGR_45_lawrows_1323.1
theorem dL_law_1251 : decode cL_law 1251 = .ok (.invokevirtual 127, 3) := dGR_45_lawrows_1323.2.1
theorem dL_law_1254 : decode cL_law 1254 = .ok (.pop, 1) := dGR_45_lawrows_1323.2.2.1
theorem dL_law_1255 : decode cL_law 1255 = .ok (.aload_n 2, 1) := dGR_45_lawrows_1323.2.2.2.1
theorem dL_law_1256 : decode cL_law 1256 = .ok (.aload_n 0, 1) := dGR_45_lawrows_1323.2.2.2.2.1
theorem dL_law_1257 : decode cL_law 1257 = .ok (.iload_n 3, 1) := dGR_45_lawrows_1323.2.2.2.2.2.1
theorem dL_law_1258 : decode cL_law 1258 = .ok (.iconst 1, 1) := dGR_45_lawrows_1323.2.2.2.2.2.2.1
theorem dL_law_1259 : decode cL_law 1259 = .ok (.iadd, 1) := dGR_45_lawrows_1323.2.2.2.2.2.2.2.1
theorem dL_law_1260 : decode cL_law 1260 = .ok (.iaload, 1) := dGR_45_lawrows_1323.2.2.2.2.2.2.2.2.1
theorem dL_law_1261 : decode cL_law 1261 = .ok (.aload_n 0, 1) := dGR_45_lawrows_1323.2.2.2.2.2.2.2.2.2.1
theorem dL_law_1262 : decode cL_law 1262 = .ok (.iload_n 3, 1) := dGR_45_lawrows_1323.2.2.2.2.2.2.2.2.2.2.1
theorem dL_law_1263 : decode cL_law 1263 = .ok (.iconst 2, 1) := dGR_45_lawrows_1323.2.2.2.2.2.2.2.2.2.2.2
set_option maxRecDepth 100000 in
theorem dGR_45_lawrows_1324 : (decode cL_law 1264 = .ok (.iadd, 1)) ∧ (decode cL_law 1265 = .ok (.iaload, 1)) ∧ (decode cL_law 1266 = .ok (.aload_n 0, 1)) ∧ (decode cL_law 1267 = .ok (.iload_n 3, 1)) ∧ (decode cL_law 1268 = .ok (.iconst 3, 1)) ∧ (decode cL_law 1269 = .ok (.iadd, 1)) ∧ (decode cL_law 1270 = .ok (.iaload, 1)) ∧ (decode cL_law 1271 = .ok (.invokevirtual 130, 3)) ∧ (decode cL_law 1274 = .ok (.pop, 1)) ∧ (decode cL_law 1275 = .ok (.goto 775, 3)) ∧ (decode cL_law 1278 = .ok (.aload_n 1, 1)) ∧ (decode cL_law 1279 = .ok (.aload_n 0, 1)) := by decide +kernel
theorem dL_law_1264 : decode cL_law 1264 = .ok (.iadd, 1) := dGR_45_lawrows_1324.1
theorem dL_law_1265 : decode cL_law 1265 = .ok (.iaload, 1) := dGR_45_lawrows_1324.2.1
theorem dL_law_1266 : decode cL_law 1266 = .ok (.aload_n 0, 1) := dGR_45_lawrows_1324.2.2.1
theorem dL_law_1267 : decode cL_law 1267 = .ok (.iload_n 3, 1) := dGR_45_lawrows_1324.2.2.2.1
theorem dL_law_1268 : decode cL_law 1268 = .ok (.iconst 3, 1) := dGR_45_lawrows_1324.2.2.2.2.1
theorem dL_law_1269 : decode cL_law 1269 = .ok (.iadd, 1) := dGR_45_lawrows_1324.2.2.2.2.2.1
theorem dL_law_1270 : decode cL_law 1270 = .ok (.iaload, 1) := dGR_45_lawrows_1324.2.2.2.2.2.2.1
theorem dL_law_1271 : decode cL_law 1271 = .ok (.invokevirtual 130, 3) := dGR_45_lawrows_1324.2.2.2.2.2.2.2.1
theorem dL_law_1274 : decode cL_law 1274 = .ok (.pop, 1) := dGR_45_lawrows_1324.2.2.2.2.2.2.2.2.1
theorem dL_law_1275 : decode cL_law 1275 = .ok (.goto 775, 3) := dGR_45_lawrows_1324.2.2.2.2.2.2.2.2.2.1
theorem dL_law_1278 : decode cL_law 1278 = .ok (.aload_n 1, 1) := dGR_45_lawrows_1324.2.2.2.2.2.2.2.2.2.2.1
theorem dL_law_1279 : decode cL_law 1279 = .ok (.aload_n 0, 1) := dGR_45_lawrows_1324.2.2.2.2.2.2.2.2.2.2.2
set_option maxRecDepth 100000 in
theorem dGR_45_lawrows_1325 : (decode cL_law 1280 = .ok (.iload_n 3, 1)) ∧ (decode cL_law 1281 = .ok (.iconst 1, 1)) ∧ (decode cL_law 1282 = .ok (.iadd, 1)) ∧ (decode cL_law 1283 = .ok (.iaload, 1)) ∧ (decode cL_law 1284 = .ok (.aload_n 0, 1)) ∧ (decode cL_law 1285 = .ok (.iload_n 3, 1)) ∧ (decode cL_law 1286 = .ok (.iconst 2, 1)) ∧ (decode cL_law 1287 = .ok (.iadd, 1)) ∧ (decode cL_law 1288 = .ok (.iaload, 1)) ∧ (decode cL_law 1289 = .ok (.aload_n 0, 1)) ∧ (decode cL_law 1290 = .ok (.iload_n 3, 1)) ∧ (decode cL_law 1291 = .ok (.iconst 3, 1)) := by decide +kernel
theorem dL_law_1280 : decode cL_law 1280 = .ok (.iload_n 3, 1) := dGR_45_lawrows_1325.1
theorem dL_law_1281 : decode cL_law 1281 = .ok (.iconst 1, 1) := dGR_45_lawrows_1325.2.1
theorem dL_law_1282 : decode cL_law 1282 = .ok (.iadd, 1) := dGR_45_lawrows_1325.2.2.1
theorem dL_law_1283 : decode cL_law 1283 = .ok (.iaload, 1) := dGR_45_lawrows_1325.2.2.2.1
theorem dL_law_1284 : decode cL_law 1284 = .ok (.aload_n 0, 1) := dGR_45_lawrows_1325.2.2.2.2.1
theorem dL_law_1285 : decode cL_law 1285 = .ok (.iload_n 3, 1) := dGR_45_lawrows_1325.2.2.2.2.2.1
theorem dL_law_1286 : decode cL_law 1286 = .ok (.iconst 2, 1) := dGR_45_lawrows_1325.2.2.2.2.2.2.1
theorem dL_law_1287 : decode cL_law 1287 = .ok (.iadd, 1) := dGR_45_lawrows_1325.2.2.2.2.2.2.2.1
theorem dL_law_1288 : decode cL_law 1288 = .ok (.iaload, 1) := dGR_45_lawrows_1325.2.2.2.2.2.2.2.2.1
theorem dL_law_1289 : decode cL_law 1289 = .ok (.aload_n 0, 1) := dGR_45_lawrows_1325.2.2.2.2.2.2.2.2.2.1
theorem dL_law_1290 : decode cL_law 1290 = .ok (.iload_n 3, 1) := dGR_45_lawrows_1325.2.2.2.2.2.2.2.2.2.2.1
theorem dL_law_1291 : decode cL_law 1291 = .ok (.iconst 3, 1) := dGR_45_lawrows_1325.2.2.2.2.2.2.2.2.2.2.2
set_option maxRecDepth 100000 in
theorem dGR_45_lawrows_1326 : (decode cL_law 1292 = .ok (.iadd, 1)) ∧ (decode cL_law 1293 = .ok (.iaload, 1)) ∧ (decode cL_law 1294 = .ok (.aload_n 0, 1)) ∧ (decode cL_law 1295 = .ok (.iload_n 3, 1)) ∧ (decode cL_law 1296 = .ok (.iconst 4, 1)) ∧ (decode cL_law 1297 = .ok (.iadd, 1)) ∧ (decode cL_law 1298 = .ok (.iaload, 1)) ∧ (decode cL_law 1299 = .ok (.aload_n 0, 1)) ∧ (decode cL_law 1300 = .ok (.iload_n 3, 1)) ∧ (decode cL_law 1301 = .ok (.iconst 5, 1)) ∧ (decode cL_law 1302 = .ok (.iadd, 1)) ∧ (decode cL_law 1303 = .ok (.iaload, 1)) := by decide +kernel
theorem dL_law_1292 : decode cL_law 1292 = .ok (.iadd, 1) := dGR_45_lawrows_1326.1
theorem dL_law_1293 : decode cL_law 1293 = .ok (.iaload, 1) := dGR_45_lawrows_1326.2.1
theorem dL_law_1294 : decode cL_law 1294 = .ok (.aload_n 0, 1) := dGR_45_lawrows_1326.2.2.1
theorem dL_law_1295 : decode cL_law 1295 = .ok (.iload_n 3, 1) := dGR_45_lawrows_1326.2.2.2.1
theorem dL_law_1296 : decode cL_law 1296 = .ok (.iconst 4, 1) := dGR_45_lawrows_1326.2.2.2.2.1
theorem dL_law_1297 : decode cL_law 1297 = .ok (.iadd, 1) := dGR_45_lawrows_1326.2.2.2.2.2.1
theorem dL_law_1298 : decode cL_law 1298 = .ok (.iaload, 1) := dGR_45_lawrows_1326.2.2.2.2.2.2.1
theorem dL_law_1299 : decode cL_law 1299 = .ok (.aload_n 0, 1) := dGR_45_lawrows_1326.2.2.2.2.2.2.2.1
theorem dL_law_1300 : decode cL_law 1300 = .ok (.iload_n 3, 1) := dGR_45_lawrows_1326.2.2.2.2.2.2.2.2.1
theorem dL_law_1301 : decode cL_law 1301 = .ok (.iconst 5, 1) := dGR_45_lawrows_1326.2.2.2.2.2.2.2.2.2.1
theorem dL_law_1302 : decode cL_law 1302 = .ok (.iadd, 1) := dGR_45_lawrows_1326.2.2.2.2.2.2.2.2.2.2.1
theorem dL_law_1303 : decode cL_law 1303 = .ok (.iaload, 1) := dGR_45_lawrows_1326.2.2.2.2.2.2.2.2.2.2.2
set_option maxRecDepth 100000 in
theorem dGR_45_lawrows_1327 : (decode cL_law 1304 = .ok (.invokevirtual 131, 3)) ∧ (decode cL_law 1307 = .ok (.pop, 1)) ∧ (decode cL_law 1308 = .ok (.aload_n 2, 1)) ∧ (decode cL_law 1309 = .ok (.aload_n 0, 1)) ∧ (decode cL_law 1310 = .ok (.iload_n 3, 1)) ∧ (decode cL_law 1311 = .ok (.iconst 1, 1)) ∧ (decode cL_law 1312 = .ok (.iadd, 1)) ∧ (decode cL_law 1313 = .ok (.iaload, 1)) ∧ (decode cL_law 1314 = .ok (.aload_n 0, 1)) ∧ (decode cL_law 1315 = .ok (.iload_n 3, 1)) ∧ (decode cL_law 1316 = .ok (.iconst 2, 1)) ∧ (decode cL_law 1317 = .ok (.iadd, 1)) := by decide +kernel
theorem dL_law_1304 : decode cL_law 1304 = .ok (.invokevirtual 131, 3) := dGR_45_lawrows_1327.1
theorem dL_law_1307 : decode cL_law 1307 = .ok (.pop, 1) := dGR_45_lawrows_1327.2.1
theorem dL_law_1308 : decode cL_law 1308 = .ok (.aload_n 2, 1) := dGR_45_lawrows_1327.2.2.1
theorem dL_law_1309 : decode cL_law 1309 = .ok (.aload_n 0, 1) := dGR_45_lawrows_1327.2.2.2.1
theorem dL_law_1310 : decode cL_law 1310 = .ok (.iload_n 3, 1) := dGR_45_lawrows_1327.2.2.2.2.1
theorem dL_law_1311 : decode cL_law 1311 = .ok (.iconst 1, 1) := dGR_45_lawrows_1327.2.2.2.2.2.1
theorem dL_law_1312 : decode cL_law 1312 = .ok (.iadd, 1) := dGR_45_lawrows_1327.2.2.2.2.2.2.1
theorem dL_law_1313 : decode cL_law 1313 = .ok (.iaload, 1) := dGR_45_lawrows_1327.2.2.2.2.2.2.2.1
theorem dL_law_1314 : decode cL_law 1314 = .ok (.aload_n 0, 1) := dGR_45_lawrows_1327.2.2.2.2.2.2.2.2.1
theorem dL_law_1315 : decode cL_law 1315 = .ok (.iload_n 3, 1) := dGR_45_lawrows_1327.2.2.2.2.2.2.2.2.2.1
theorem dL_law_1316 : decode cL_law 1316 = .ok (.iconst 2, 1) := dGR_45_lawrows_1327.2.2.2.2.2.2.2.2.2.2.1
theorem dL_law_1317 : decode cL_law 1317 = .ok (.iadd, 1) := dGR_45_lawrows_1327.2.2.2.2.2.2.2.2.2.2.2
set_option maxRecDepth 100000 in
theorem dGR_45_lawrows_1328 : (decode cL_law 1318 = .ok (.iaload, 1)) ∧ (decode cL_law 1319 = .ok (.aload_n 0, 1)) ∧ (decode cL_law 1320 = .ok (.iload_n 3, 1)) ∧ (decode cL_law 1321 = .ok (.iconst 3, 1)) ∧ (decode cL_law 1322 = .ok (.iadd, 1)) ∧ (decode cL_law 1323 = .ok (.iaload, 1)) ∧ (decode cL_law 1324 = .ok (.aload_n 0, 1)) ∧ (decode cL_law 1325 = .ok (.iload_n 3, 1)) ∧ (decode cL_law 1326 = .ok (.iconst 4, 1)) ∧ (decode cL_law 1327 = .ok (.iadd, 1)) ∧ (decode cL_law 1328 = .ok (.iaload, 1)) ∧ (decode cL_law 1329 = .ok (.aload_n 0, 1)) := by decide +kernel
theorem dL_law_1318 : decode cL_law 1318 = .ok (.iaload, 1) := dGR_45_lawrows_1328.1
theorem dL_law_1319 : decode cL_law 1319 = .ok (.aload_n 0, 1) := dGR_45_lawrows_1328.2.1
theorem dL_law_1320 : decode cL_law 1320 = .ok (.iload_n 3, 1) := dGR_45_lawrows_1328.2.2.1
theorem dL_law_1321 : decode cL_law 1321 = .ok (.iconst 3, 1) := dGR_45_lawrows_1328.2.2.2.1
theorem dL_law_1322 : decode cL_law 1322 = .ok (.iadd, 1) := dGR_45_lawrows_1328.2.2.2.2.1
theorem dL_law_1323 : decode cL_law 1323 = .ok (.iaload, 1) := dGR_45_lawrows_1328.2.2.2.2.2.1
theorem dL_law_1324 : decode cL_law 1324 = .ok (.aload_n 0, 1) := dGR_45_lawrows_1328.2.2.2.2.2.2.1
theorem dL_law_1325 : decode cL_law 1325 = .ok (.iload_n 3, 1) := dGR_45_lawrows_1328.2.2.2.2.2.2.2.1
theorem dL_law_1326 : decode cL_law 1326 = .ok (.iconst 4, 1) := dGR_45_lawrows_1328.2.2.2.2.2.2.2.2.1
theorem dL_law_1327 : decode cL_law 1327 = .ok (.iadd, 1) := dGR_45_lawrows_1328.2.2.2.2.2.2.2.2.2.1
theorem dL_law_1328 : decode cL_law 1328 = .ok (.iaload, 1) := dGR_45_lawrows_1328.2.2.2.2.2.2.2.2.2.2.1
theorem dL_law_1329 : decode cL_law 1329 = .ok (.aload_n 0, 1) := dGR_45_lawrows_1328.2.2.2.2.2.2.2.2.2.2.2
set_option maxRecDepth 100000 in
theorem dGR_45_lawrows_1329 : (decode cL_law 1330 = .ok (.iload_n 3, 1)) ∧ (decode cL_law 1331 = .ok (.iconst 5, 1)) ∧ (decode cL_law 1332 = .ok (.iadd, 1)) ∧ (decode cL_law 1333 = .ok (.iaload, 1)) ∧ (decode cL_law 1334 = .ok (.invokevirtual 134, 3)) ∧ (decode cL_law 1337 = .ok (.pop, 1)) ∧ (decode cL_law 1338 = .ok (.goto 712, 3)) ∧ (decode cL_law 1341 = .ok (.aload_n 1, 1)) ∧ (decode cL_law 1342 = .ok (.aload_n 0, 1)) ∧ (decode cL_law 1343 = .ok (.iload_n 3, 1)) ∧ (decode cL_law 1344 = .ok (.iconst 1, 1)) ∧ (decode cL_law 1345 = .ok (.iadd, 1)) := by decide +kernel
theorem dL_law_1330 : decode cL_law 1330 = .ok (.iload_n 3, 1) := dGR_45_lawrows_1329.1
theorem dL_law_1331 : decode cL_law 1331 = .ok (.iconst 5, 1) := dGR_45_lawrows_1329.2.1
theorem dL_law_1332 : decode cL_law 1332 = .ok (.iadd, 1) := dGR_45_lawrows_1329.2.2.1
theorem dL_law_1333 : decode cL_law 1333 = .ok (.iaload, 1) := dGR_45_lawrows_1329.2.2.2.1
theorem dL_law_1334 : decode cL_law 1334 = .ok (.invokevirtual 134, 3) := dGR_45_lawrows_1329.2.2.2.2.1
theorem dL_law_1337 : decode cL_law 1337 = .ok (.pop, 1) := dGR_45_lawrows_1329.2.2.2.2.2.1
theorem dL_law_1338 : decode cL_law 1338 = .ok (.goto 712, 3) := dGR_45_lawrows_1329.2.2.2.2.2.2.1
theorem dL_law_1341 : decode cL_law 1341 = .ok (.aload_n 1, 1) := dGR_45_lawrows_1329.2.2.2.2.2.2.2.1
theorem dL_law_1342 : decode cL_law 1342 = .ok (.aload_n 0, 1) := dGR_45_lawrows_1329.2.2.2.2.2.2.2.2.1
theorem dL_law_1343 : decode cL_law 1343 = .ok (.iload_n 3, 1) := dGR_45_lawrows_1329.2.2.2.2.2.2.2.2.2.1
theorem dL_law_1344 : decode cL_law 1344 = .ok (.iconst 1, 1) := dGR_45_lawrows_1329.2.2.2.2.2.2.2.2.2.2.1
theorem dL_law_1345 : decode cL_law 1345 = .ok (.iadd, 1) := dGR_45_lawrows_1329.2.2.2.2.2.2.2.2.2.2.2
set_option maxRecDepth 100000 in
theorem dGR_45_lawrows_1330 : (decode cL_law 1346 = .ok (.iaload, 1)) ∧ (decode cL_law 1347 = .ok (.aload_n 0, 1)) ∧ (decode cL_law 1348 = .ok (.iload_n 3, 1)) ∧ (decode cL_law 1349 = .ok (.iconst 2, 1)) ∧ (decode cL_law 1350 = .ok (.iadd, 1)) ∧ (decode cL_law 1351 = .ok (.iaload, 1)) ∧ (decode cL_law 1352 = .ok (.aload_n 0, 1)) ∧ (decode cL_law 1353 = .ok (.iload_n 3, 1)) ∧ (decode cL_law 1354 = .ok (.iconst 3, 1)) ∧ (decode cL_law 1355 = .ok (.iadd, 1)) ∧ (decode cL_law 1356 = .ok (.iaload, 1)) ∧ (decode cL_law 1357 = .ok (.invokevirtual 135, 3)) := by decide +kernel
theorem dL_law_1346 : decode cL_law 1346 = .ok (.iaload, 1) := dGR_45_lawrows_1330.1
theorem dL_law_1347 : decode cL_law 1347 = .ok (.aload_n 0, 1) := dGR_45_lawrows_1330.2.1
theorem dL_law_1348 : decode cL_law 1348 = .ok (.iload_n 3, 1) := dGR_45_lawrows_1330.2.2.1
theorem dL_law_1349 : decode cL_law 1349 = .ok (.iconst 2, 1) := dGR_45_lawrows_1330.2.2.2.1
theorem dL_law_1350 : decode cL_law 1350 = .ok (.iadd, 1) := dGR_45_lawrows_1330.2.2.2.2.1
theorem dL_law_1351 : decode cL_law 1351 = .ok (.iaload, 1) := dGR_45_lawrows_1330.2.2.2.2.2.1
theorem dL_law_1352 : decode cL_law 1352 = .ok (.aload_n 0, 1) := dGR_45_lawrows_1330.2.2.2.2.2.2.1
theorem dL_law_1353 : decode cL_law 1353 = .ok (.iload_n 3, 1) := dGR_45_lawrows_1330.2.2.2.2.2.2.2.1
theorem dL_law_1354 : decode cL_law 1354 = .ok (.iconst 3, 1) := dGR_45_lawrows_1330.2.2.2.2.2.2.2.2.1
theorem dL_law_1355 : decode cL_law 1355 = .ok (.iadd, 1) := dGR_45_lawrows_1330.2.2.2.2.2.2.2.2.2.1
theorem dL_law_1356 : decode cL_law 1356 = .ok (.iaload, 1) := dGR_45_lawrows_1330.2.2.2.2.2.2.2.2.2.2.1
theorem dL_law_1357 : decode cL_law 1357 = .ok (.invokevirtual 135, 3) := dGR_45_lawrows_1330.2.2.2.2.2.2.2.2.2.2.2
set_option maxRecDepth 100000 in
theorem dGR_45_lawrows_1331 : (decode cL_law 1360 = .ok (.pop, 1)) ∧ (decode cL_law 1361 = .ok (.aload_n 2, 1)) ∧ (decode cL_law 1362 = .ok (.aload_n 0, 1)) ∧ (decode cL_law 1363 = .ok (.iload_n 3, 1)) ∧ (decode cL_law 1364 = .ok (.iconst 1, 1)) ∧ (decode cL_law 1365 = .ok (.iadd, 1)) ∧ (decode cL_law 1366 = .ok (.iaload, 1)) ∧ (decode cL_law 1367 = .ok (.aload_n 0, 1)) ∧ (decode cL_law 1368 = .ok (.iload_n 3, 1)) ∧ (decode cL_law 1369 = .ok (.iconst 2, 1)) ∧ (decode cL_law 1370 = .ok (.iadd, 1)) ∧ (decode cL_law 1371 = .ok (.iaload, 1)) := by decide +kernel
theorem dL_law_1360 : decode cL_law 1360 = .ok (.pop, 1) := dGR_45_lawrows_1331.1
theorem dL_law_1361 : decode cL_law 1361 = .ok (.aload_n 2, 1) := dGR_45_lawrows_1331.2.1
theorem dL_law_1362 : decode cL_law 1362 = .ok (.aload_n 0, 1) := dGR_45_lawrows_1331.2.2.1
theorem dL_law_1363 : decode cL_law 1363 = .ok (.iload_n 3, 1) := dGR_45_lawrows_1331.2.2.2.1
theorem dL_law_1364 : decode cL_law 1364 = .ok (.iconst 1, 1) := dGR_45_lawrows_1331.2.2.2.2.1
theorem dL_law_1365 : decode cL_law 1365 = .ok (.iadd, 1) := dGR_45_lawrows_1331.2.2.2.2.2.1
theorem dL_law_1366 : decode cL_law 1366 = .ok (.iaload, 1) := dGR_45_lawrows_1331.2.2.2.2.2.2.1
theorem dL_law_1367 : decode cL_law 1367 = .ok (.aload_n 0, 1) := dGR_45_lawrows_1331.2.2.2.2.2.2.2.1
theorem dL_law_1368 : decode cL_law 1368 = .ok (.iload_n 3, 1) := dGR_45_lawrows_1331.2.2.2.2.2.2.2.2.1
theorem dL_law_1369 : decode cL_law 1369 = .ok (.iconst 2, 1) := dGR_45_lawrows_1331.2.2.2.2.2.2.2.2.2.1
theorem dL_law_1370 : decode cL_law 1370 = .ok (.iadd, 1) := dGR_45_lawrows_1331.2.2.2.2.2.2.2.2.2.2.1
theorem dL_law_1371 : decode cL_law 1371 = .ok (.iaload, 1) := dGR_45_lawrows_1331.2.2.2.2.2.2.2.2.2.2.2
set_option maxRecDepth 100000 in
theorem dGR_45_lawrows_1332 : (decode cL_law 1372 = .ok (.aload_n 0, 1)) ∧ (decode cL_law 1373 = .ok (.iload_n 3, 1)) ∧ (decode cL_law 1374 = .ok (.iconst 3, 1)) ∧ (decode cL_law 1375 = .ok (.iadd, 1)) ∧ (decode cL_law 1376 = .ok (.iaload, 1)) ∧ (decode cL_law 1377 = .ok (.invokevirtual 138, 3)) ∧ (decode cL_law 1380 = .ok (.pop, 1)) ∧ (decode cL_law 1381 = .ok (.goto 669, 3)) ∧ (decode cL_law 1384 = .ok (.aload_n 1, 1)) ∧ (decode cL_law 1385 = .ok (.aload_n 0, 1)) ∧ (decode cL_law 1386 = .ok (.iload_n 3, 1)) ∧ (decode cL_law 1387 = .ok (.iconst 1, 1)) := by decide +kernel
theorem dL_law_1372 : decode cL_law 1372 = .ok (.aload_n 0, 1) := dGR_45_lawrows_1332.1
theorem dL_law_1373 : decode cL_law 1373 = .ok (.iload_n 3, 1) := dGR_45_lawrows_1332.2.1
theorem dL_law_1374 : decode cL_law 1374 = .ok (.iconst 3, 1) := dGR_45_lawrows_1332.2.2.1
theorem dL_law_1375 : decode cL_law 1375 = .ok (.iadd, 1) := dGR_45_lawrows_1332.2.2.2.1
theorem dL_law_1376 : decode cL_law 1376 = .ok (.iaload, 1) := dGR_45_lawrows_1332.2.2.2.2.1
theorem dL_law_1377 : decode cL_law 1377 = .ok (.invokevirtual 138, 3) := dGR_45_lawrows_1332.2.2.2.2.2.1
theorem dL_law_1380 : decode cL_law 1380 = .ok (.pop, 1) := dGR_45_lawrows_1332.2.2.2.2.2.2.1
theorem dL_law_1381 : decode cL_law 1381 = .ok (.goto 669, 3) := dGR_45_lawrows_1332.2.2.2.2.2.2.2.1
theorem dL_law_1384 : decode cL_law 1384 = .ok (.aload_n 1, 1) := dGR_45_lawrows_1332.2.2.2.2.2.2.2.2.1
theorem dL_law_1385 : decode cL_law 1385 = .ok (.aload_n 0, 1) := dGR_45_lawrows_1332.2.2.2.2.2.2.2.2.2.1
theorem dL_law_1386 : decode cL_law 1386 = .ok (.iload_n 3, 1) := dGR_45_lawrows_1332.2.2.2.2.2.2.2.2.2.2.1
theorem dL_law_1387 : decode cL_law 1387 = .ok (.iconst 1, 1) := dGR_45_lawrows_1332.2.2.2.2.2.2.2.2.2.2.2
set_option maxRecDepth 100000 in
theorem dGR_45_lawrows_1333 : (decode cL_law 1388 = .ok (.iadd, 1)) ∧ (decode cL_law 1389 = .ok (.iaload, 1)) ∧ (decode cL_law 1390 = .ok (.invokevirtual 139, 3)) ∧ (decode cL_law 1393 = .ok (.pop, 1)) ∧ (decode cL_law 1394 = .ok (.aload_n 2, 1)) ∧ (decode cL_law 1395 = .ok (.aload_n 0, 1)) ∧ (decode cL_law 1396 = .ok (.iload_n 3, 1)) ∧ (decode cL_law 1397 = .ok (.iconst 1, 1)) ∧ (decode cL_law 1398 = .ok (.iadd, 1)) ∧ (decode cL_law 1399 = .ok (.iaload, 1)) ∧ (decode cL_law 1400 = .ok (.invokevirtual 142, 3)) ∧ (decode cL_law 1403 = .ok (.pop, 1)) := by decide +kernel
theorem dL_law_1388 : decode cL_law 1388 = .ok (.iadd, 1) := dGR_45_lawrows_1333.1
theorem dL_law_1389 : decode cL_law 1389 = .ok (.iaload, 1) := dGR_45_lawrows_1333.2.1
theorem dL_law_1390 : decode cL_law 1390 = .ok (.invokevirtual 139, 3) := dGR_45_lawrows_1333.2.2.1
theorem dL_law_1393 : decode cL_law 1393 = .ok (.pop, 1) := dGR_45_lawrows_1333.2.2.2.1
theorem dL_law_1394 : decode cL_law 1394 = .ok (.aload_n 2, 1) := dGR_45_lawrows_1333.2.2.2.2.1
theorem dL_law_1395 : decode cL_law 1395 = .ok (.aload_n 0, 1) := dGR_45_lawrows_1333.2.2.2.2.2.1
theorem dL_law_1396 : decode cL_law 1396 = .ok (.iload_n 3, 1) := dGR_45_lawrows_1333.2.2.2.2.2.2.1
theorem dL_law_1397 : decode cL_law 1397 = .ok (.iconst 1, 1) := dGR_45_lawrows_1333.2.2.2.2.2.2.2.1
theorem dL_law_1398 : decode cL_law 1398 = .ok (.iadd, 1) := dGR_45_lawrows_1333.2.2.2.2.2.2.2.2.1
theorem dL_law_1399 : decode cL_law 1399 = .ok (.iaload, 1) := dGR_45_lawrows_1333.2.2.2.2.2.2.2.2.2.1
theorem dL_law_1400 : decode cL_law 1400 = .ok (.invokevirtual 142, 3) := dGR_45_lawrows_1333.2.2.2.2.2.2.2.2.2.2.1
theorem dL_law_1403 : decode cL_law 1403 = .ok (.pop, 1) := dGR_45_lawrows_1333.2.2.2.2.2.2.2.2.2.2.2
set_option maxRecDepth 100000 in
theorem dGR_45_lawrows_1334 : (decode cL_law 1404 = .ok (.goto 646, 3)) ∧ (decode cL_law 1407 = .ok (.aload_n 1, 1)) ∧ (decode cL_law 1408 = .ok (.aload_n 0, 1)) ∧ (decode cL_law 1409 = .ok (.iload_n 3, 1)) ∧ (decode cL_law 1410 = .ok (.iconst 1, 1)) ∧ (decode cL_law 1411 = .ok (.iadd, 1)) ∧ (decode cL_law 1412 = .ok (.iaload, 1)) ∧ (decode cL_law 1413 = .ok (.invokevirtual 143, 3)) ∧ (decode cL_law 1416 = .ok (.pop, 1)) ∧ (decode cL_law 1417 = .ok (.aload_n 2, 1)) ∧ (decode cL_law 1418 = .ok (.aload_n 0, 1)) ∧ (decode cL_law 1419 = .ok (.iload_n 3, 1)) := by decide +kernel
theorem dL_law_1404 : decode cL_law 1404 = .ok (.goto 646, 3) := dGR_45_lawrows_1334.1
theorem dL_law_1407 : decode cL_law 1407 = .ok (.aload_n 1, 1) := dGR_45_lawrows_1334.2.1
theorem dL_law_1408 : decode cL_law 1408 = .ok (.aload_n 0, 1) := dGR_45_lawrows_1334.2.2.1
theorem dL_law_1409 : decode cL_law 1409 = .ok (.iload_n 3, 1) := dGR_45_lawrows_1334.2.2.2.1
theorem dL_law_1410 : decode cL_law 1410 = .ok (.iconst 1, 1) := dGR_45_lawrows_1334.2.2.2.2.1
theorem dL_law_1411 : decode cL_law 1411 = .ok (.iadd, 1) := dGR_45_lawrows_1334.2.2.2.2.2.1
theorem dL_law_1412 : decode cL_law 1412 = .ok (.iaload, 1) := dGR_45_lawrows_1334.2.2.2.2.2.2.1
theorem dL_law_1413 : decode cL_law 1413 = .ok (.invokevirtual 143, 3) := dGR_45_lawrows_1334.2.2.2.2.2.2.2.1
theorem dL_law_1416 : decode cL_law 1416 = .ok (.pop, 1) := dGR_45_lawrows_1334.2.2.2.2.2.2.2.2.1
theorem dL_law_1417 : decode cL_law 1417 = .ok (.aload_n 2, 1) := dGR_45_lawrows_1334.2.2.2.2.2.2.2.2.2.1
theorem dL_law_1418 : decode cL_law 1418 = .ok (.aload_n 0, 1) := dGR_45_lawrows_1334.2.2.2.2.2.2.2.2.2.2.1
theorem dL_law_1419 : decode cL_law 1419 = .ok (.iload_n 3, 1) := dGR_45_lawrows_1334.2.2.2.2.2.2.2.2.2.2.2
set_option maxRecDepth 100000 in
theorem dGR_45_lawrows_1335 : (decode cL_law 1420 = .ok (.iconst 1, 1)) ∧ (decode cL_law 1421 = .ok (.iadd, 1)) ∧ (decode cL_law 1422 = .ok (.iaload, 1)) ∧ (decode cL_law 1423 = .ok (.invokevirtual 146, 3)) ∧ (decode cL_law 1426 = .ok (.pop, 1)) ∧ (decode cL_law 1427 = .ok (.goto 623, 3)) ∧ (decode cL_law 1430 = .ok (.aload_n 1, 1)) ∧ (decode cL_law 1431 = .ok (.aload_n 0, 1)) ∧ (decode cL_law 1432 = .ok (.iload_n 3, 1)) ∧ (decode cL_law 1433 = .ok (.iconst 1, 1)) ∧ (decode cL_law 1434 = .ok (.iadd, 1)) ∧ (decode cL_law 1435 = .ok (.iaload, 1)) := by decide +kernel
theorem dL_law_1420 : decode cL_law 1420 = .ok (.iconst 1, 1) := dGR_45_lawrows_1335.1
theorem dL_law_1421 : decode cL_law 1421 = .ok (.iadd, 1) := dGR_45_lawrows_1335.2.1
theorem dL_law_1422 : decode cL_law 1422 = .ok (.iaload, 1) := dGR_45_lawrows_1335.2.2.1
theorem dL_law_1423 : decode cL_law 1423 = .ok (.invokevirtual 146, 3) := dGR_45_lawrows_1335.2.2.2.1
theorem dL_law_1426 : decode cL_law 1426 = .ok (.pop, 1) := dGR_45_lawrows_1335.2.2.2.2.1
theorem dL_law_1427 : decode cL_law 1427 = .ok (.goto 623, 3) := dGR_45_lawrows_1335.2.2.2.2.2.1
theorem dL_law_1430 : decode cL_law 1430 = .ok (.aload_n 1, 1) := dGR_45_lawrows_1335.2.2.2.2.2.2.1
theorem dL_law_1431 : decode cL_law 1431 = .ok (.aload_n 0, 1) := dGR_45_lawrows_1335.2.2.2.2.2.2.2.1
theorem dL_law_1432 : decode cL_law 1432 = .ok (.iload_n 3, 1) := dGR_45_lawrows_1335.2.2.2.2.2.2.2.2.1
theorem dL_law_1433 : decode cL_law 1433 = .ok (.iconst 1, 1) := dGR_45_lawrows_1335.2.2.2.2.2.2.2.2.2.1
theorem dL_law_1434 : decode cL_law 1434 = .ok (.iadd, 1) := dGR_45_lawrows_1335.2.2.2.2.2.2.2.2.2.2.1
theorem dL_law_1435 : decode cL_law 1435 = .ok (.iaload, 1) := dGR_45_lawrows_1335.2.2.2.2.2.2.2.2.2.2.2
set_option maxRecDepth 100000 in
theorem dGR_45_lawrows_1336 : (decode cL_law 1436 = .ok (.aload_n 0, 1)) ∧ (decode cL_law 1437 = .ok (.iload_n 3, 1)) ∧ (decode cL_law 1438 = .ok (.iconst 2, 1)) ∧ (decode cL_law 1439 = .ok (.iadd, 1)) ∧ (decode cL_law 1440 = .ok (.iaload, 1)) ∧ (decode cL_law 1441 = .ok (.invokevirtual 147, 3)) ∧ (decode cL_law 1444 = .ok (.pop, 1)) ∧ (decode cL_law 1445 = .ok (.aload_n 2, 1)) ∧ (decode cL_law 1446 = .ok (.aload_n 0, 1)) ∧ (decode cL_law 1447 = .ok (.iload_n 3, 1)) ∧ (decode cL_law 1448 = .ok (.iconst 1, 1)) ∧ (decode cL_law 1449 = .ok (.iadd, 1)) := by decide +kernel
theorem dL_law_1436 : decode cL_law 1436 = .ok (.aload_n 0, 1) := dGR_45_lawrows_1336.1
theorem dL_law_1437 : decode cL_law 1437 = .ok (.iload_n 3, 1) := dGR_45_lawrows_1336.2.1
theorem dL_law_1438 : decode cL_law 1438 = .ok (.iconst 2, 1) := dGR_45_lawrows_1336.2.2.1
theorem dL_law_1439 : decode cL_law 1439 = .ok (.iadd, 1) := dGR_45_lawrows_1336.2.2.2.1
theorem dL_law_1440 : decode cL_law 1440 = .ok (.iaload, 1) := dGR_45_lawrows_1336.2.2.2.2.1
theorem dL_law_1441 : decode cL_law 1441 = .ok (.invokevirtual 147, 3) := dGR_45_lawrows_1336.2.2.2.2.2.1
theorem dL_law_1444 : decode cL_law 1444 = .ok (.pop, 1) := dGR_45_lawrows_1336.2.2.2.2.2.2.1
theorem dL_law_1445 : decode cL_law 1445 = .ok (.aload_n 2, 1) := dGR_45_lawrows_1336.2.2.2.2.2.2.2.1
theorem dL_law_1446 : decode cL_law 1446 = .ok (.aload_n 0, 1) := dGR_45_lawrows_1336.2.2.2.2.2.2.2.2.1
theorem dL_law_1447 : decode cL_law 1447 = .ok (.iload_n 3, 1) := dGR_45_lawrows_1336.2.2.2.2.2.2.2.2.2.1
theorem dL_law_1448 : decode cL_law 1448 = .ok (.iconst 1, 1) := dGR_45_lawrows_1336.2.2.2.2.2.2.2.2.2.2.1
theorem dL_law_1449 : decode cL_law 1449 = .ok (.iadd, 1) := dGR_45_lawrows_1336.2.2.2.2.2.2.2.2.2.2.2
set_option maxRecDepth 100000 in
theorem dGR_45_lawrows_1337 : (decode cL_law 1450 = .ok (.iaload, 1)) ∧ (decode cL_law 1451 = .ok (.aload_n 0, 1)) ∧ (decode cL_law 1452 = .ok (.iload_n 3, 1)) ∧ (decode cL_law 1453 = .ok (.iconst 2, 1)) ∧ (decode cL_law 1454 = .ok (.iadd, 1)) ∧ (decode cL_law 1455 = .ok (.iaload, 1)) ∧ (decode cL_law 1456 = .ok (.invokevirtual 150, 3)) ∧ (decode cL_law 1459 = .ok (.pop, 1)) ∧ (decode cL_law 1460 = .ok (.goto 590, 3)) ∧ (decode cL_law 1463 = .ok (.aload_n 1, 1)) ∧ (decode cL_law 1464 = .ok (.aload_n 0, 1)) ∧ (decode cL_law 1465 = .ok (.iload_n 3, 1)) := by decide +kernel
theorem dL_law_1450 : decode cL_law 1450 = .ok (.iaload, 1) := dGR_45_lawrows_1337.1
theorem dL_law_1451 : decode cL_law 1451 = .ok (.aload_n 0, 1) := dGR_45_lawrows_1337.2.1
theorem dL_law_1452 : decode cL_law 1452 = .ok (.iload_n 3, 1) := dGR_45_lawrows_1337.2.2.1
theorem dL_law_1453 : decode cL_law 1453 = .ok (.iconst 2, 1) := dGR_45_lawrows_1337.2.2.2.1
theorem dL_law_1454 : decode cL_law 1454 = .ok (.iadd, 1) := dGR_45_lawrows_1337.2.2.2.2.1
theorem dL_law_1455 : decode cL_law 1455 = .ok (.iaload, 1) := dGR_45_lawrows_1337.2.2.2.2.2.1
theorem dL_law_1456 : decode cL_law 1456 = .ok (.invokevirtual 150, 3) := dGR_45_lawrows_1337.2.2.2.2.2.2.1
theorem dL_law_1459 : decode cL_law 1459 = .ok (.pop, 1) := dGR_45_lawrows_1337.2.2.2.2.2.2.2.1
theorem dL_law_1460 : decode cL_law 1460 = .ok (.goto 590, 3) := dGR_45_lawrows_1337.2.2.2.2.2.2.2.2.1
theorem dL_law_1463 : decode cL_law 1463 = .ok (.aload_n 1, 1) := dGR_45_lawrows_1337.2.2.2.2.2.2.2.2.2.1
theorem dL_law_1464 : decode cL_law 1464 = .ok (.aload_n 0, 1) := dGR_45_lawrows_1337.2.2.2.2.2.2.2.2.2.2.1
theorem dL_law_1465 : decode cL_law 1465 = .ok (.iload_n 3, 1) := dGR_45_lawrows_1337.2.2.2.2.2.2.2.2.2.2.2
set_option maxRecDepth 100000 in
theorem dGR_45_lawrows_1338 : (decode cL_law 1466 = .ok (.iconst 1, 1)) ∧ (decode cL_law 1467 = .ok (.iadd, 1)) ∧ (decode cL_law 1468 = .ok (.iaload, 1)) ∧ (decode cL_law 1469 = .ok (.aload_n 0, 1)) ∧ (decode cL_law 1470 = .ok (.iload_n 3, 1)) ∧ (decode cL_law 1471 = .ok (.iconst 2, 1)) ∧ (decode cL_law 1472 = .ok (.iadd, 1)) ∧ (decode cL_law 1473 = .ok (.iaload, 1)) ∧ (decode cL_law 1474 = .ok (.invokevirtual 151, 3)) ∧ (decode cL_law 1477 = .ok (.pop, 1)) ∧ (decode cL_law 1478 = .ok (.aload_n 2, 1)) ∧ (decode cL_law 1479 = .ok (.aload_n 0, 1)) := by decide +kernel
theorem dL_law_1466 : decode cL_law 1466 = .ok (.iconst 1, 1) := dGR_45_lawrows_1338.1
theorem dL_law_1467 : decode cL_law 1467 = .ok (.iadd, 1) := dGR_45_lawrows_1338.2.1
theorem dL_law_1468 : decode cL_law 1468 = .ok (.iaload, 1) := dGR_45_lawrows_1338.2.2.1
theorem dL_law_1469 : decode cL_law 1469 = .ok (.aload_n 0, 1) := dGR_45_lawrows_1338.2.2.2.1
theorem dL_law_1470 : decode cL_law 1470 = .ok (.iload_n 3, 1) := dGR_45_lawrows_1338.2.2.2.2.1
theorem dL_law_1471 : decode cL_law 1471 = .ok (.iconst 2, 1) := dGR_45_lawrows_1338.2.2.2.2.2.1
theorem dL_law_1472 : decode cL_law 1472 = .ok (.iadd, 1) := dGR_45_lawrows_1338.2.2.2.2.2.2.1
theorem dL_law_1473 : decode cL_law 1473 = .ok (.iaload, 1) := dGR_45_lawrows_1338.2.2.2.2.2.2.2.1
theorem dL_law_1474 : decode cL_law 1474 = .ok (.invokevirtual 151, 3) := dGR_45_lawrows_1338.2.2.2.2.2.2.2.2.1
theorem dL_law_1477 : decode cL_law 1477 = .ok (.pop, 1) := dGR_45_lawrows_1338.2.2.2.2.2.2.2.2.2.1
theorem dL_law_1478 : decode cL_law 1478 = .ok (.aload_n 2, 1) := dGR_45_lawrows_1338.2.2.2.2.2.2.2.2.2.2.1
theorem dL_law_1479 : decode cL_law 1479 = .ok (.aload_n 0, 1) := dGR_45_lawrows_1338.2.2.2.2.2.2.2.2.2.2.2
set_option maxRecDepth 100000 in
theorem dGR_45_lawrows_1339 : (decode cL_law 1480 = .ok (.iload_n 3, 1)) ∧ (decode cL_law 1481 = .ok (.iconst 1, 1)) ∧ (decode cL_law 1482 = .ok (.iadd, 1)) ∧ (decode cL_law 1483 = .ok (.iaload, 1)) ∧ (decode cL_law 1484 = .ok (.aload_n 0, 1)) ∧ (decode cL_law 1485 = .ok (.iload_n 3, 1)) ∧ (decode cL_law 1486 = .ok (.iconst 2, 1)) ∧ (decode cL_law 1487 = .ok (.iadd, 1)) ∧ (decode cL_law 1488 = .ok (.iaload, 1)) ∧ (decode cL_law 1489 = .ok (.invokevirtual 154, 3)) ∧ (decode cL_law 1492 = .ok (.pop, 1)) ∧ (decode cL_law 1493 = .ok (.goto 557, 3)) := by decide +kernel
theorem dL_law_1480 : decode cL_law 1480 = .ok (.iload_n 3, 1) := dGR_45_lawrows_1339.1
theorem dL_law_1481 : decode cL_law 1481 = .ok (.iconst 1, 1) := dGR_45_lawrows_1339.2.1
theorem dL_law_1482 : decode cL_law 1482 = .ok (.iadd, 1) := dGR_45_lawrows_1339.2.2.1
theorem dL_law_1483 : decode cL_law 1483 = .ok (.iaload, 1) := dGR_45_lawrows_1339.2.2.2.1
theorem dL_law_1484 : decode cL_law 1484 = .ok (.aload_n 0, 1) := dGR_45_lawrows_1339.2.2.2.2.1
theorem dL_law_1485 : decode cL_law 1485 = .ok (.iload_n 3, 1) := dGR_45_lawrows_1339.2.2.2.2.2.1
theorem dL_law_1486 : decode cL_law 1486 = .ok (.iconst 2, 1) := dGR_45_lawrows_1339.2.2.2.2.2.2.1
theorem dL_law_1487 : decode cL_law 1487 = .ok (.iadd, 1) := dGR_45_lawrows_1339.2.2.2.2.2.2.2.1
theorem dL_law_1488 : decode cL_law 1488 = .ok (.iaload, 1) := dGR_45_lawrows_1339.2.2.2.2.2.2.2.2.1
theorem dL_law_1489 : decode cL_law 1489 = .ok (.invokevirtual 154, 3) := dGR_45_lawrows_1339.2.2.2.2.2.2.2.2.2.1
theorem dL_law_1492 : decode cL_law 1492 = .ok (.pop, 1) := dGR_45_lawrows_1339.2.2.2.2.2.2.2.2.2.2.1
theorem dL_law_1493 : decode cL_law 1493 = .ok (.goto 557, 3) := dGR_45_lawrows_1339.2.2.2.2.2.2.2.2.2.2.2
set_option maxRecDepth 100000 in
theorem dGR_45_lawrows_1340 : (decode cL_law 1496 = .ok (.aload_n 1, 1)) ∧ (decode cL_law 1497 = .ok (.aload_n 0, 1)) ∧ (decode cL_law 1498 = .ok (.iload_n 3, 1)) ∧ (decode cL_law 1499 = .ok (.iconst 1, 1)) ∧ (decode cL_law 1500 = .ok (.iadd, 1)) ∧ (decode cL_law 1501 = .ok (.iaload, 1)) ∧ (decode cL_law 1502 = .ok (.aload_n 0, 1)) ∧ (decode cL_law 1503 = .ok (.iload_n 3, 1)) ∧ (decode cL_law 1504 = .ok (.iconst 2, 1)) ∧ (decode cL_law 1505 = .ok (.iadd, 1)) ∧ (decode cL_law 1506 = .ok (.iaload, 1)) ∧ (decode cL_law 1507 = .ok (.aload_n 0, 1)) := by decide +kernel
theorem dL_law_1496 : decode cL_law 1496 = .ok (.aload_n 1, 1) := dGR_45_lawrows_1340.1
theorem dL_law_1497 : decode cL_law 1497 = .ok (.aload_n 0, 1) := dGR_45_lawrows_1340.2.1
theorem dL_law_1498 : decode cL_law 1498 = .ok (.iload_n 3, 1) := dGR_45_lawrows_1340.2.2.1
theorem dL_law_1499 : decode cL_law 1499 = .ok (.iconst 1, 1) := dGR_45_lawrows_1340.2.2.2.1
theorem dL_law_1500 : decode cL_law 1500 = .ok (.iadd, 1) := dGR_45_lawrows_1340.2.2.2.2.1
theorem dL_law_1501 : decode cL_law 1501 = .ok (.iaload, 1) := dGR_45_lawrows_1340.2.2.2.2.2.1
theorem dL_law_1502 : decode cL_law 1502 = .ok (.aload_n 0, 1) := dGR_45_lawrows_1340.2.2.2.2.2.2.1
theorem dL_law_1503 : decode cL_law 1503 = .ok (.iload_n 3, 1) := dGR_45_lawrows_1340.2.2.2.2.2.2.2.1
theorem dL_law_1504 : decode cL_law 1504 = .ok (.iconst 2, 1) := dGR_45_lawrows_1340.2.2.2.2.2.2.2.2.1
theorem dL_law_1505 : decode cL_law 1505 = .ok (.iadd, 1) := dGR_45_lawrows_1340.2.2.2.2.2.2.2.2.2.1
theorem dL_law_1506 : decode cL_law 1506 = .ok (.iaload, 1) := dGR_45_lawrows_1340.2.2.2.2.2.2.2.2.2.2.1
theorem dL_law_1507 : decode cL_law 1507 = .ok (.aload_n 0, 1) := dGR_45_lawrows_1340.2.2.2.2.2.2.2.2.2.2.2
set_option maxRecDepth 100000 in
theorem dGR_45_lawrows_1341 : (decode cL_law 1508 = .ok (.iload_n 3, 1)) ∧ (decode cL_law 1509 = .ok (.iconst 3, 1)) ∧ (decode cL_law 1510 = .ok (.iadd, 1)) ∧ (decode cL_law 1511 = .ok (.iaload, 1)) ∧ (decode cL_law 1512 = .ok (.invokevirtual 155, 3)) ∧ (decode cL_law 1515 = .ok (.pop, 1)) ∧ (decode cL_law 1516 = .ok (.aload_n 2, 1)) ∧ (decode cL_law 1517 = .ok (.aload_n 0, 1)) ∧ (decode cL_law 1518 = .ok (.iload_n 3, 1)) ∧ (decode cL_law 1519 = .ok (.iconst 1, 1)) ∧ (decode cL_law 1520 = .ok (.iadd, 1)) ∧ (decode cL_law 1521 = .ok (.iaload, 1)) := by decide +kernel
theorem dL_law_1508 : decode cL_law 1508 = .ok (.iload_n 3, 1) := dGR_45_lawrows_1341.1
theorem dL_law_1509 : decode cL_law 1509 = .ok (.iconst 3, 1) := dGR_45_lawrows_1341.2.1
theorem dL_law_1510 : decode cL_law 1510 = .ok (.iadd, 1) := dGR_45_lawrows_1341.2.2.1
theorem dL_law_1511 : decode cL_law 1511 = .ok (.iaload, 1) := dGR_45_lawrows_1341.2.2.2.1
theorem dL_law_1512 : decode cL_law 1512 = .ok (.invokevirtual 155, 3) := dGR_45_lawrows_1341.2.2.2.2.1
theorem dL_law_1515 : decode cL_law 1515 = .ok (.pop, 1) := dGR_45_lawrows_1341.2.2.2.2.2.1
theorem dL_law_1516 : decode cL_law 1516 = .ok (.aload_n 2, 1) := dGR_45_lawrows_1341.2.2.2.2.2.2.1
theorem dL_law_1517 : decode cL_law 1517 = .ok (.aload_n 0, 1) := dGR_45_lawrows_1341.2.2.2.2.2.2.2.1
theorem dL_law_1518 : decode cL_law 1518 = .ok (.iload_n 3, 1) := dGR_45_lawrows_1341.2.2.2.2.2.2.2.2.1
theorem dL_law_1519 : decode cL_law 1519 = .ok (.iconst 1, 1) := dGR_45_lawrows_1341.2.2.2.2.2.2.2.2.2.1
theorem dL_law_1520 : decode cL_law 1520 = .ok (.iadd, 1) := dGR_45_lawrows_1341.2.2.2.2.2.2.2.2.2.2.1
theorem dL_law_1521 : decode cL_law 1521 = .ok (.iaload, 1) := dGR_45_lawrows_1341.2.2.2.2.2.2.2.2.2.2.2
set_option maxRecDepth 100000 in
theorem dGR_45_lawrows_1342 : (decode cL_law 1522 = .ok (.aload_n 0, 1)) ∧ (decode cL_law 1523 = .ok (.iload_n 3, 1)) ∧ (decode cL_law 1524 = .ok (.iconst 2, 1)) ∧ (decode cL_law 1525 = .ok (.iadd, 1)) ∧ (decode cL_law 1526 = .ok (.iaload, 1)) ∧ (decode cL_law 1527 = .ok (.aload_n 0, 1)) ∧ (decode cL_law 1528 = .ok (.iload_n 3, 1)) ∧ (decode cL_law 1529 = .ok (.iconst 3, 1)) ∧ (decode cL_law 1530 = .ok (.iadd, 1)) ∧ (decode cL_law 1531 = .ok (.iaload, 1)) ∧ (decode cL_law 1532 = .ok (.invokevirtual 158, 3)) ∧ (decode cL_law 1535 = .ok (.pop, 1)) := by decide +kernel
theorem dL_law_1522 : decode cL_law 1522 = .ok (.aload_n 0, 1) := dGR_45_lawrows_1342.1
theorem dL_law_1523 : decode cL_law 1523 = .ok (.iload_n 3, 1) := dGR_45_lawrows_1342.2.1
theorem dL_law_1524 : decode cL_law 1524 = .ok (.iconst 2, 1) := dGR_45_lawrows_1342.2.2.1
theorem dL_law_1525 : decode cL_law 1525 = .ok (.iadd, 1) := dGR_45_lawrows_1342.2.2.2.1
theorem dL_law_1526 : decode cL_law 1526 = .ok (.iaload, 1) := dGR_45_lawrows_1342.2.2.2.2.1
theorem dL_law_1527 : decode cL_law 1527 = .ok (.aload_n 0, 1) := dGR_45_lawrows_1342.2.2.2.2.2.1
theorem dL_law_1528 : decode cL_law 1528 = .ok (.iload_n 3, 1) := dGR_45_lawrows_1342.2.2.2.2.2.2.1
theorem dL_law_1529 : decode cL_law 1529 = .ok (.iconst 3, 1) := dGR_45_lawrows_1342.2.2.2.2.2.2.2.1
theorem dL_law_1530 : decode cL_law 1530 = .ok (.iadd, 1) := dGR_45_lawrows_1342.2.2.2.2.2.2.2.2.1
theorem dL_law_1531 : decode cL_law 1531 = .ok (.iaload, 1) := dGR_45_lawrows_1342.2.2.2.2.2.2.2.2.2.1
theorem dL_law_1532 : decode cL_law 1532 = .ok (.invokevirtual 158, 3) := dGR_45_lawrows_1342.2.2.2.2.2.2.2.2.2.2.1
theorem dL_law_1535 : decode cL_law 1535 = .ok (.pop, 1) := dGR_45_lawrows_1342.2.2.2.2.2.2.2.2.2.2.2
set_option maxRecDepth 100000 in
theorem dGR_45_lawrows_1343 : (decode cL_law 1536 = .ok (.goto 514, 3)) ∧ (decode cL_law 1539 = .ok (.aload_n 1, 1)) ∧ (decode cL_law 1540 = .ok (.aload_n 0, 1)) ∧ (decode cL_law 1541 = .ok (.iload_n 3, 1)) ∧ (decode cL_law 1542 = .ok (.iconst 1, 1)) ∧ (decode cL_law 1543 = .ok (.iadd, 1)) ∧ (decode cL_law 1544 = .ok (.iaload, 1)) ∧ (decode cL_law 1545 = .ok (.aload_n 0, 1)) ∧ (decode cL_law 1546 = .ok (.iload_n 3, 1)) ∧ (decode cL_law 1547 = .ok (.iconst 2, 1)) ∧ (decode cL_law 1548 = .ok (.iadd, 1)) ∧ (decode cL_law 1549 = .ok (.iaload, 1)) := by decide +kernel
theorem dL_law_1536 : decode cL_law 1536 = .ok (.goto 514, 3) := dGR_45_lawrows_1343.1
theorem dL_law_1539 : decode cL_law 1539 = .ok (.aload_n 1, 1) := dGR_45_lawrows_1343.2.1
theorem dL_law_1540 : decode cL_law 1540 = .ok (.aload_n 0, 1) := dGR_45_lawrows_1343.2.2.1
theorem dL_law_1541 : decode cL_law 1541 = .ok (.iload_n 3, 1) := dGR_45_lawrows_1343.2.2.2.1
theorem dL_law_1542 : decode cL_law 1542 = .ok (.iconst 1, 1) := dGR_45_lawrows_1343.2.2.2.2.1
theorem dL_law_1543 : decode cL_law 1543 = .ok (.iadd, 1) := dGR_45_lawrows_1343.2.2.2.2.2.1
theorem dL_law_1544 : decode cL_law 1544 = .ok (.iaload, 1) := dGR_45_lawrows_1343.2.2.2.2.2.2.1
theorem dL_law_1545 : decode cL_law 1545 = .ok (.aload_n 0, 1) := dGR_45_lawrows_1343.2.2.2.2.2.2.2.1
theorem dL_law_1546 : decode cL_law 1546 = .ok (.iload_n 3, 1) := dGR_45_lawrows_1343.2.2.2.2.2.2.2.2.1
theorem dL_law_1547 : decode cL_law 1547 = .ok (.iconst 2, 1) := dGR_45_lawrows_1343.2.2.2.2.2.2.2.2.2.1
theorem dL_law_1548 : decode cL_law 1548 = .ok (.iadd, 1) := dGR_45_lawrows_1343.2.2.2.2.2.2.2.2.2.2.1
theorem dL_law_1549 : decode cL_law 1549 = .ok (.iaload, 1) := dGR_45_lawrows_1343.2.2.2.2.2.2.2.2.2.2.2
set_option maxRecDepth 100000 in
theorem dGR_45_lawrows_1344 : (decode cL_law 1550 = .ok (.invokevirtual 159, 3)) ∧ (decode cL_law 1553 = .ok (.pop, 1)) ∧ (decode cL_law 1554 = .ok (.aload_n 2, 1)) ∧ (decode cL_law 1555 = .ok (.aload_n 0, 1)) ∧ (decode cL_law 1556 = .ok (.iload_n 3, 1)) ∧ (decode cL_law 1557 = .ok (.iconst 1, 1)) ∧ (decode cL_law 1558 = .ok (.iadd, 1)) ∧ (decode cL_law 1559 = .ok (.iaload, 1)) ∧ (decode cL_law 1560 = .ok (.aload_n 0, 1)) ∧ (decode cL_law 1561 = .ok (.iload_n 3, 1)) ∧ (decode cL_law 1562 = .ok (.iconst 2, 1)) ∧ (decode cL_law 1563 = .ok (.iadd, 1)) := by decide +kernel
theorem dL_law_1550 : decode cL_law 1550 = .ok (.invokevirtual 159, 3) := dGR_45_lawrows_1344.1
theorem dL_law_1553 : decode cL_law 1553 = .ok (.pop, 1) := dGR_45_lawrows_1344.2.1
theorem dL_law_1554 : decode cL_law 1554 = .ok (.aload_n 2, 1) := dGR_45_lawrows_1344.2.2.1
theorem dL_law_1555 : decode cL_law 1555 = .ok (.aload_n 0, 1) := dGR_45_lawrows_1344.2.2.2.1
theorem dL_law_1556 : decode cL_law 1556 = .ok (.iload_n 3, 1) := dGR_45_lawrows_1344.2.2.2.2.1
theorem dL_law_1557 : decode cL_law 1557 = .ok (.iconst 1, 1) := dGR_45_lawrows_1344.2.2.2.2.2.1
theorem dL_law_1558 : decode cL_law 1558 = .ok (.iadd, 1) := dGR_45_lawrows_1344.2.2.2.2.2.2.1
theorem dL_law_1559 : decode cL_law 1559 = .ok (.iaload, 1) := dGR_45_lawrows_1344.2.2.2.2.2.2.2.1
theorem dL_law_1560 : decode cL_law 1560 = .ok (.aload_n 0, 1) := dGR_45_lawrows_1344.2.2.2.2.2.2.2.2.1
theorem dL_law_1561 : decode cL_law 1561 = .ok (.iload_n 3, 1) := dGR_45_lawrows_1344.2.2.2.2.2.2.2.2.2.1
theorem dL_law_1562 : decode cL_law 1562 = .ok (.iconst 2, 1) := dGR_45_lawrows_1344.2.2.2.2.2.2.2.2.2.2.1
theorem dL_law_1563 : decode cL_law 1563 = .ok (.iadd, 1) := dGR_45_lawrows_1344.2.2.2.2.2.2.2.2.2.2.2
set_option maxRecDepth 100000 in
theorem dGR_45_lawrows_1345 : (decode cL_law 1564 = .ok (.iaload, 1)) ∧ (decode cL_law 1565 = .ok (.invokevirtual 162, 3)) ∧ (decode cL_law 1568 = .ok (.pop, 1)) ∧ (decode cL_law 1569 = .ok (.goto 481, 3)) ∧ (decode cL_law 1572 = .ok (.aload_n 1, 1)) ∧ (decode cL_law 1573 = .ok (.aload_n 0, 1)) ∧ (decode cL_law 1574 = .ok (.iload_n 3, 1)) ∧ (decode cL_law 1575 = .ok (.iconst 1, 1)) ∧ (decode cL_law 1576 = .ok (.iadd, 1)) ∧ (decode cL_law 1577 = .ok (.iaload, 1)) ∧ (decode cL_law 1578 = .ok (.aload_n 0, 1)) ∧ (decode cL_law 1579 = .ok (.iload_n 3, 1)) := by decide +kernel
theorem dL_law_1564 : decode cL_law 1564 = .ok (.iaload, 1) := dGR_45_lawrows_1345.1
theorem dL_law_1565 : decode cL_law 1565 = .ok (.invokevirtual 162, 3) := dGR_45_lawrows_1345.2.1
theorem dL_law_1568 : decode cL_law 1568 = .ok (.pop, 1) := dGR_45_lawrows_1345.2.2.1
theorem dL_law_1569 : decode cL_law 1569 = .ok (.goto 481, 3) := dGR_45_lawrows_1345.2.2.2.1
theorem dL_law_1572 : decode cL_law 1572 = .ok (.aload_n 1, 1) := dGR_45_lawrows_1345.2.2.2.2.1
theorem dL_law_1573 : decode cL_law 1573 = .ok (.aload_n 0, 1) := dGR_45_lawrows_1345.2.2.2.2.2.1
theorem dL_law_1574 : decode cL_law 1574 = .ok (.iload_n 3, 1) := dGR_45_lawrows_1345.2.2.2.2.2.2.1
theorem dL_law_1575 : decode cL_law 1575 = .ok (.iconst 1, 1) := dGR_45_lawrows_1345.2.2.2.2.2.2.2.1
theorem dL_law_1576 : decode cL_law 1576 = .ok (.iadd, 1) := dGR_45_lawrows_1345.2.2.2.2.2.2.2.2.1
theorem dL_law_1577 : decode cL_law 1577 = .ok (.iaload, 1) := dGR_45_lawrows_1345.2.2.2.2.2.2.2.2.2.1
theorem dL_law_1578 : decode cL_law 1578 = .ok (.aload_n 0, 1) := dGR_45_lawrows_1345.2.2.2.2.2.2.2.2.2.2.1
theorem dL_law_1579 : decode cL_law 1579 = .ok (.iload_n 3, 1) := dGR_45_lawrows_1345.2.2.2.2.2.2.2.2.2.2.2
set_option maxRecDepth 100000 in
theorem dGR_45_lawrows_1346 : (decode cL_law 1580 = .ok (.iconst 2, 1)) ∧ (decode cL_law 1581 = .ok (.iadd, 1)) ∧ (decode cL_law 1582 = .ok (.iaload, 1)) ∧ (decode cL_law 1583 = .ok (.aload_n 0, 1)) ∧ (decode cL_law 1584 = .ok (.iload_n 3, 1)) ∧ (decode cL_law 1585 = .ok (.iconst 3, 1)) ∧ (decode cL_law 1586 = .ok (.iadd, 1)) ∧ (decode cL_law 1587 = .ok (.iaload, 1)) ∧ (decode cL_law 1588 = .ok (.invokevirtual 163, 3)) ∧ (decode cL_law 1591 = .ok (.pop, 1)) ∧ (decode cL_law 1592 = .ok (.aload_n 2, 1)) ∧ (decode cL_law 1593 = .ok (.aload_n 0, 1)) := by decide +kernel
theorem dL_law_1580 : decode cL_law 1580 = .ok (.iconst 2, 1) := dGR_45_lawrows_1346.1
theorem dL_law_1581 : decode cL_law 1581 = .ok (.iadd, 1) := dGR_45_lawrows_1346.2.1
theorem dL_law_1582 : decode cL_law 1582 = .ok (.iaload, 1) := dGR_45_lawrows_1346.2.2.1
theorem dL_law_1583 : decode cL_law 1583 = .ok (.aload_n 0, 1) := dGR_45_lawrows_1346.2.2.2.1
theorem dL_law_1584 : decode cL_law 1584 = .ok (.iload_n 3, 1) := dGR_45_lawrows_1346.2.2.2.2.1
theorem dL_law_1585 : decode cL_law 1585 = .ok (.iconst 3, 1) := dGR_45_lawrows_1346.2.2.2.2.2.1
theorem dL_law_1586 : decode cL_law 1586 = .ok (.iadd, 1) := dGR_45_lawrows_1346.2.2.2.2.2.2.1
theorem dL_law_1587 : decode cL_law 1587 = .ok (.iaload, 1) := dGR_45_lawrows_1346.2.2.2.2.2.2.2.1
theorem dL_law_1588 : decode cL_law 1588 = .ok (.invokevirtual 163, 3) := dGR_45_lawrows_1346.2.2.2.2.2.2.2.2.1
theorem dL_law_1591 : decode cL_law 1591 = .ok (.pop, 1) := dGR_45_lawrows_1346.2.2.2.2.2.2.2.2.2.1
theorem dL_law_1592 : decode cL_law 1592 = .ok (.aload_n 2, 1) := dGR_45_lawrows_1346.2.2.2.2.2.2.2.2.2.2.1
theorem dL_law_1593 : decode cL_law 1593 = .ok (.aload_n 0, 1) := dGR_45_lawrows_1346.2.2.2.2.2.2.2.2.2.2.2
set_option maxRecDepth 100000 in
theorem dGR_45_lawrows_1347 : (decode cL_law 1594 = .ok (.iload_n 3, 1)) ∧ (decode cL_law 1595 = .ok (.iconst 1, 1)) ∧ (decode cL_law 1596 = .ok (.iadd, 1)) ∧ (decode cL_law 1597 = .ok (.iaload, 1)) ∧ (decode cL_law 1598 = .ok (.aload_n 0, 1)) ∧ (decode cL_law 1599 = .ok (.iload_n 3, 1)) ∧ (decode cL_law 1600 = .ok (.iconst 2, 1)) ∧ (decode cL_law 1601 = .ok (.iadd, 1)) ∧ (decode cL_law 1602 = .ok (.iaload, 1)) ∧ (decode cL_law 1603 = .ok (.aload_n 0, 1)) ∧ (decode cL_law 1604 = .ok (.iload_n 3, 1)) ∧ (decode cL_law 1605 = .ok (.iconst 3, 1)) := by decide +kernel
theorem dL_law_1594 : decode cL_law 1594 = .ok (.iload_n 3, 1) := dGR_45_lawrows_1347.1
theorem dL_law_1595 : decode cL_law 1595 = .ok (.iconst 1, 1) := dGR_45_lawrows_1347.2.1
theorem dL_law_1596 : decode cL_law 1596 = .ok (.iadd, 1) := dGR_45_lawrows_1347.2.2.1
theorem dL_law_1597 : decode cL_law 1597 = .ok (.iaload, 1) := dGR_45_lawrows_1347.2.2.2.1
theorem dL_law_1598 : decode cL_law 1598 = .ok (.aload_n 0, 1) := dGR_45_lawrows_1347.2.2.2.2.1
theorem dL_law_1599 : decode cL_law 1599 = .ok (.iload_n 3, 1) := dGR_45_lawrows_1347.2.2.2.2.2.1
theorem dL_law_1600 : decode cL_law 1600 = .ok (.iconst 2, 1) := dGR_45_lawrows_1347.2.2.2.2.2.2.1
theorem dL_law_1601 : decode cL_law 1601 = .ok (.iadd, 1) := dGR_45_lawrows_1347.2.2.2.2.2.2.2.1
theorem dL_law_1602 : decode cL_law 1602 = .ok (.iaload, 1) := dGR_45_lawrows_1347.2.2.2.2.2.2.2.2.1
theorem dL_law_1603 : decode cL_law 1603 = .ok (.aload_n 0, 1) := dGR_45_lawrows_1347.2.2.2.2.2.2.2.2.2.1
theorem dL_law_1604 : decode cL_law 1604 = .ok (.iload_n 3, 1) := dGR_45_lawrows_1347.2.2.2.2.2.2.2.2.2.2.1
theorem dL_law_1605 : decode cL_law 1605 = .ok (.iconst 3, 1) := dGR_45_lawrows_1347.2.2.2.2.2.2.2.2.2.2.2
set_option maxRecDepth 100000 in
theorem dGR_45_lawrows_1348 : (decode cL_law 1606 = .ok (.iadd, 1)) ∧ (decode cL_law 1607 = .ok (.iaload, 1)) ∧ (decode cL_law 1608 = .ok (.invokevirtual 166, 3)) ∧ (decode cL_law 1611 = .ok (.pop, 1)) ∧ (decode cL_law 1612 = .ok (.goto 438, 3)) ∧ (decode cL_law 1615 = .ok (.aload_n 1, 1)) ∧ (decode cL_law 1616 = .ok (.aload_n 0, 1)) ∧ (decode cL_law 1617 = .ok (.iload_n 3, 1)) ∧ (decode cL_law 1618 = .ok (.iconst 1, 1)) ∧ (decode cL_law 1619 = .ok (.iadd, 1)) ∧ (decode cL_law 1620 = .ok (.iaload, 1)) ∧ (decode cL_law 1621 = .ok (.invokevirtual 167, 3)) := by decide +kernel
theorem dL_law_1606 : decode cL_law 1606 = .ok (.iadd, 1) := dGR_45_lawrows_1348.1
theorem dL_law_1607 : decode cL_law 1607 = .ok (.iaload, 1) := dGR_45_lawrows_1348.2.1
theorem dL_law_1608 : decode cL_law 1608 = .ok (.invokevirtual 166, 3) := dGR_45_lawrows_1348.2.2.1
theorem dL_law_1611 : decode cL_law 1611 = .ok (.pop, 1) := dGR_45_lawrows_1348.2.2.2.1
theorem dL_law_1612 : decode cL_law 1612 = .ok (.goto 438, 3) := dGR_45_lawrows_1348.2.2.2.2.1
theorem dL_law_1615 : decode cL_law 1615 = .ok (.aload_n 1, 1) := dGR_45_lawrows_1348.2.2.2.2.2.1
theorem dL_law_1616 : decode cL_law 1616 = .ok (.aload_n 0, 1) := dGR_45_lawrows_1348.2.2.2.2.2.2.1
theorem dL_law_1617 : decode cL_law 1617 = .ok (.iload_n 3, 1) := dGR_45_lawrows_1348.2.2.2.2.2.2.2.1
theorem dL_law_1618 : decode cL_law 1618 = .ok (.iconst 1, 1) := dGR_45_lawrows_1348.2.2.2.2.2.2.2.2.1
theorem dL_law_1619 : decode cL_law 1619 = .ok (.iadd, 1) := dGR_45_lawrows_1348.2.2.2.2.2.2.2.2.2.1
theorem dL_law_1620 : decode cL_law 1620 = .ok (.iaload, 1) := dGR_45_lawrows_1348.2.2.2.2.2.2.2.2.2.2.1
theorem dL_law_1621 : decode cL_law 1621 = .ok (.invokevirtual 167, 3) := dGR_45_lawrows_1348.2.2.2.2.2.2.2.2.2.2.2
set_option maxRecDepth 100000 in
theorem dGR_45_lawrows_1349 : (decode cL_law 1624 = .ok (.pop, 1)) ∧ (decode cL_law 1625 = .ok (.aload_n 2, 1)) ∧ (decode cL_law 1626 = .ok (.aload_n 0, 1)) ∧ (decode cL_law 1627 = .ok (.iload_n 3, 1)) ∧ (decode cL_law 1628 = .ok (.iconst 1, 1)) ∧ (decode cL_law 1629 = .ok (.iadd, 1)) ∧ (decode cL_law 1630 = .ok (.iaload, 1)) ∧ (decode cL_law 1631 = .ok (.invokevirtual 170, 3)) ∧ (decode cL_law 1634 = .ok (.pop, 1)) ∧ (decode cL_law 1635 = .ok (.goto 415, 3)) ∧ (decode cL_law 1638 = .ok (.aload_n 1, 1)) ∧ (decode cL_law 1639 = .ok (.aload_n 0, 1)) := by decide +kernel
theorem dL_law_1624 : decode cL_law 1624 = .ok (.pop, 1) := dGR_45_lawrows_1349.1
theorem dL_law_1625 : decode cL_law 1625 = .ok (.aload_n 2, 1) := dGR_45_lawrows_1349.2.1
theorem dL_law_1626 : decode cL_law 1626 = .ok (.aload_n 0, 1) := dGR_45_lawrows_1349.2.2.1
theorem dL_law_1627 : decode cL_law 1627 = .ok (.iload_n 3, 1) := dGR_45_lawrows_1349.2.2.2.1
theorem dL_law_1628 : decode cL_law 1628 = .ok (.iconst 1, 1) := dGR_45_lawrows_1349.2.2.2.2.1
theorem dL_law_1629 : decode cL_law 1629 = .ok (.iadd, 1) := dGR_45_lawrows_1349.2.2.2.2.2.1
theorem dL_law_1630 : decode cL_law 1630 = .ok (.iaload, 1) := dGR_45_lawrows_1349.2.2.2.2.2.2.1
theorem dL_law_1631 : decode cL_law 1631 = .ok (.invokevirtual 170, 3) := dGR_45_lawrows_1349.2.2.2.2.2.2.2.1
theorem dL_law_1634 : decode cL_law 1634 = .ok (.pop, 1) := dGR_45_lawrows_1349.2.2.2.2.2.2.2.2.1
theorem dL_law_1635 : decode cL_law 1635 = .ok (.goto 415, 3) := dGR_45_lawrows_1349.2.2.2.2.2.2.2.2.2.1
theorem dL_law_1638 : decode cL_law 1638 = .ok (.aload_n 1, 1) := dGR_45_lawrows_1349.2.2.2.2.2.2.2.2.2.2.1
theorem dL_law_1639 : decode cL_law 1639 = .ok (.aload_n 0, 1) := dGR_45_lawrows_1349.2.2.2.2.2.2.2.2.2.2.2
set_option maxRecDepth 100000 in
theorem dGR_45_lawrows_1350 : (decode cL_law 1640 = .ok (.iload_n 3, 1)) ∧ (decode cL_law 1641 = .ok (.iconst 1, 1)) ∧ (decode cL_law 1642 = .ok (.iadd, 1)) ∧ (decode cL_law 1643 = .ok (.iaload, 1)) ∧ (decode cL_law 1644 = .ok (.aload_n 0, 1)) ∧ (decode cL_law 1645 = .ok (.iload_n 3, 1)) ∧ (decode cL_law 1646 = .ok (.iconst 2, 1)) ∧ (decode cL_law 1647 = .ok (.iadd, 1)) ∧ (decode cL_law 1648 = .ok (.iaload, 1)) ∧ (decode cL_law 1649 = .ok (.invokevirtual 171, 3)) ∧ (decode cL_law 1652 = .ok (.pop, 1)) ∧ (decode cL_law 1653 = .ok (.aload_n 2, 1)) := by decide +kernel
theorem dL_law_1640 : decode cL_law 1640 = .ok (.iload_n 3, 1) := dGR_45_lawrows_1350.1
theorem dL_law_1641 : decode cL_law 1641 = .ok (.iconst 1, 1) := dGR_45_lawrows_1350.2.1
theorem dL_law_1642 : decode cL_law 1642 = .ok (.iadd, 1) := dGR_45_lawrows_1350.2.2.1
theorem dL_law_1643 : decode cL_law 1643 = .ok (.iaload, 1) := dGR_45_lawrows_1350.2.2.2.1
theorem dL_law_1644 : decode cL_law 1644 = .ok (.aload_n 0, 1) := dGR_45_lawrows_1350.2.2.2.2.1
theorem dL_law_1645 : decode cL_law 1645 = .ok (.iload_n 3, 1) := dGR_45_lawrows_1350.2.2.2.2.2.1
theorem dL_law_1646 : decode cL_law 1646 = .ok (.iconst 2, 1) := dGR_45_lawrows_1350.2.2.2.2.2.2.1
theorem dL_law_1647 : decode cL_law 1647 = .ok (.iadd, 1) := dGR_45_lawrows_1350.2.2.2.2.2.2.2.1
theorem dL_law_1648 : decode cL_law 1648 = .ok (.iaload, 1) := dGR_45_lawrows_1350.2.2.2.2.2.2.2.2.1
theorem dL_law_1649 : decode cL_law 1649 = .ok (.invokevirtual 171, 3) := dGR_45_lawrows_1350.2.2.2.2.2.2.2.2.2.1
theorem dL_law_1652 : decode cL_law 1652 = .ok (.pop, 1) := dGR_45_lawrows_1350.2.2.2.2.2.2.2.2.2.2.1
theorem dL_law_1653 : decode cL_law 1653 = .ok (.aload_n 2, 1) := dGR_45_lawrows_1350.2.2.2.2.2.2.2.2.2.2.2
set_option maxRecDepth 100000 in
theorem dGR_45_lawrows_1351 : (decode cL_law 1654 = .ok (.aload_n 0, 1)) ∧ (decode cL_law 1655 = .ok (.iload_n 3, 1)) ∧ (decode cL_law 1656 = .ok (.iconst 1, 1)) ∧ (decode cL_law 1657 = .ok (.iadd, 1)) ∧ (decode cL_law 1658 = .ok (.iaload, 1)) ∧ (decode cL_law 1659 = .ok (.aload_n 0, 1)) ∧ (decode cL_law 1660 = .ok (.iload_n 3, 1)) ∧ (decode cL_law 1661 = .ok (.iconst 2, 1)) ∧ (decode cL_law 1662 = .ok (.iadd, 1)) ∧ (decode cL_law 1663 = .ok (.iaload, 1)) ∧ (decode cL_law 1664 = .ok (.invokevirtual 174, 3)) ∧ (decode cL_law 1667 = .ok (.pop, 1)) := by decide +kernel
theorem dL_law_1654 : decode cL_law 1654 = .ok (.aload_n 0, 1) := dGR_45_lawrows_1351.1
theorem dL_law_1655 : decode cL_law 1655 = .ok (.iload_n 3, 1) := dGR_45_lawrows_1351.2.1
theorem dL_law_1656 : decode cL_law 1656 = .ok (.iconst 1, 1) := dGR_45_lawrows_1351.2.2.1
theorem dL_law_1657 : decode cL_law 1657 = .ok (.iadd, 1) := dGR_45_lawrows_1351.2.2.2.1
theorem dL_law_1658 : decode cL_law 1658 = .ok (.iaload, 1) := dGR_45_lawrows_1351.2.2.2.2.1
theorem dL_law_1659 : decode cL_law 1659 = .ok (.aload_n 0, 1) := dGR_45_lawrows_1351.2.2.2.2.2.1
theorem dL_law_1660 : decode cL_law 1660 = .ok (.iload_n 3, 1) := dGR_45_lawrows_1351.2.2.2.2.2.2.1
theorem dL_law_1661 : decode cL_law 1661 = .ok (.iconst 2, 1) := dGR_45_lawrows_1351.2.2.2.2.2.2.2.1
theorem dL_law_1662 : decode cL_law 1662 = .ok (.iadd, 1) := dGR_45_lawrows_1351.2.2.2.2.2.2.2.2.1
theorem dL_law_1663 : decode cL_law 1663 = .ok (.iaload, 1) := dGR_45_lawrows_1351.2.2.2.2.2.2.2.2.2.1
theorem dL_law_1664 : decode cL_law 1664 = .ok (.invokevirtual 174, 3) := dGR_45_lawrows_1351.2.2.2.2.2.2.2.2.2.2.1
theorem dL_law_1667 : decode cL_law 1667 = .ok (.pop, 1) := dGR_45_lawrows_1351.2.2.2.2.2.2.2.2.2.2.2
set_option maxRecDepth 100000 in
theorem dGR_45_lawrows_1352 : (decode cL_law 1668 = .ok (.goto 382, 3)) ∧ (decode cL_law 1671 = .ok (.aload_n 1, 1)) ∧ (decode cL_law 1672 = .ok (.aload_n 0, 1)) ∧ (decode cL_law 1673 = .ok (.iload_n 3, 1)) ∧ (decode cL_law 1674 = .ok (.iconst 1, 1)) ∧ (decode cL_law 1675 = .ok (.iadd, 1)) ∧ (decode cL_law 1676 = .ok (.iaload, 1)) ∧ (decode cL_law 1677 = .ok (.aload_n 0, 1)) ∧ (decode cL_law 1678 = .ok (.iload_n 3, 1)) ∧ (decode cL_law 1679 = .ok (.iconst 2, 1)) ∧ (decode cL_law 1680 = .ok (.iadd, 1)) ∧ (decode cL_law 1681 = .ok (.iaload, 1)) := by decide +kernel
theorem dL_law_1668 : decode cL_law 1668 = .ok (.goto 382, 3) := dGR_45_lawrows_1352.1
theorem dL_law_1671 : decode cL_law 1671 = .ok (.aload_n 1, 1) := dGR_45_lawrows_1352.2.1
theorem dL_law_1672 : decode cL_law 1672 = .ok (.aload_n 0, 1) := dGR_45_lawrows_1352.2.2.1
theorem dL_law_1673 : decode cL_law 1673 = .ok (.iload_n 3, 1) := dGR_45_lawrows_1352.2.2.2.1
theorem dL_law_1674 : decode cL_law 1674 = .ok (.iconst 1, 1) := dGR_45_lawrows_1352.2.2.2.2.1
theorem dL_law_1675 : decode cL_law 1675 = .ok (.iadd, 1) := dGR_45_lawrows_1352.2.2.2.2.2.1
theorem dL_law_1676 : decode cL_law 1676 = .ok (.iaload, 1) := dGR_45_lawrows_1352.2.2.2.2.2.2.1
theorem dL_law_1677 : decode cL_law 1677 = .ok (.aload_n 0, 1) := dGR_45_lawrows_1352.2.2.2.2.2.2.2.1
theorem dL_law_1678 : decode cL_law 1678 = .ok (.iload_n 3, 1) := dGR_45_lawrows_1352.2.2.2.2.2.2.2.2.1
theorem dL_law_1679 : decode cL_law 1679 = .ok (.iconst 2, 1) := dGR_45_lawrows_1352.2.2.2.2.2.2.2.2.2.1
theorem dL_law_1680 : decode cL_law 1680 = .ok (.iadd, 1) := dGR_45_lawrows_1352.2.2.2.2.2.2.2.2.2.2.1
theorem dL_law_1681 : decode cL_law 1681 = .ok (.iaload, 1) := dGR_45_lawrows_1352.2.2.2.2.2.2.2.2.2.2.2
set_option maxRecDepth 100000 in
theorem dGR_45_lawrows_1353 : (decode cL_law 1682 = .ok (.invokevirtual 175, 3)) ∧ (decode cL_law 1685 = .ok (.pop, 1)) ∧ (decode cL_law 1686 = .ok (.aload_n 2, 1)) ∧ (decode cL_law 1687 = .ok (.aload_n 0, 1)) ∧ (decode cL_law 1688 = .ok (.iload_n 3, 1)) ∧ (decode cL_law 1689 = .ok (.iconst 1, 1)) ∧ (decode cL_law 1690 = .ok (.iadd, 1)) ∧ (decode cL_law 1691 = .ok (.iaload, 1)) ∧ (decode cL_law 1692 = .ok (.aload_n 0, 1)) ∧ (decode cL_law 1693 = .ok (.iload_n 3, 1)) ∧ (decode cL_law 1694 = .ok (.iconst 2, 1)) ∧ (decode cL_law 1695 = .ok (.iadd, 1)) := by decide +kernel
theorem dL_law_1682 : decode cL_law 1682 = .ok (.invokevirtual 175, 3) := dGR_45_lawrows_1353.1
theorem dL_law_1685 : decode cL_law 1685 = .ok (.pop, 1) := dGR_45_lawrows_1353.2.1
theorem dL_law_1686 : decode cL_law 1686 = .ok (.aload_n 2, 1) := dGR_45_lawrows_1353.2.2.1
theorem dL_law_1687 : decode cL_law 1687 = .ok (.aload_n 0, 1) := dGR_45_lawrows_1353.2.2.2.1
theorem dL_law_1688 : decode cL_law 1688 = .ok (.iload_n 3, 1) := dGR_45_lawrows_1353.2.2.2.2.1
theorem dL_law_1689 : decode cL_law 1689 = .ok (.iconst 1, 1) := dGR_45_lawrows_1353.2.2.2.2.2.1
theorem dL_law_1690 : decode cL_law 1690 = .ok (.iadd, 1) := dGR_45_lawrows_1353.2.2.2.2.2.2.1
theorem dL_law_1691 : decode cL_law 1691 = .ok (.iaload, 1) := dGR_45_lawrows_1353.2.2.2.2.2.2.2.1
theorem dL_law_1692 : decode cL_law 1692 = .ok (.aload_n 0, 1) := dGR_45_lawrows_1353.2.2.2.2.2.2.2.2.1
theorem dL_law_1693 : decode cL_law 1693 = .ok (.iload_n 3, 1) := dGR_45_lawrows_1353.2.2.2.2.2.2.2.2.2.1
theorem dL_law_1694 : decode cL_law 1694 = .ok (.iconst 2, 1) := dGR_45_lawrows_1353.2.2.2.2.2.2.2.2.2.2.1
theorem dL_law_1695 : decode cL_law 1695 = .ok (.iadd, 1) := dGR_45_lawrows_1353.2.2.2.2.2.2.2.2.2.2.2
set_option maxRecDepth 100000 in
theorem dGR_45_lawrows_1354 : (decode cL_law 1696 = .ok (.iaload, 1)) ∧ (decode cL_law 1697 = .ok (.invokevirtual 178, 3)) ∧ (decode cL_law 1700 = .ok (.pop, 1)) ∧ (decode cL_law 1701 = .ok (.goto 349, 3)) ∧ (decode cL_law 1704 = .ok (.aload_n 1, 1)) ∧ (decode cL_law 1705 = .ok (.aload_n 0, 1)) ∧ (decode cL_law 1706 = .ok (.iload_n 3, 1)) ∧ (decode cL_law 1707 = .ok (.iconst 1, 1)) ∧ (decode cL_law 1708 = .ok (.iadd, 1)) ∧ (decode cL_law 1709 = .ok (.iaload, 1)) ∧ (decode cL_law 1710 = .ok (.aload_n 0, 1)) ∧ (decode cL_law 1711 = .ok (.iload_n 3, 1)) := by decide +kernel
theorem dL_law_1696 : decode cL_law 1696 = .ok (.iaload, 1) := dGR_45_lawrows_1354.1
theorem dL_law_1697 : decode cL_law 1697 = .ok (.invokevirtual 178, 3) := dGR_45_lawrows_1354.2.1
theorem dL_law_1700 : decode cL_law 1700 = .ok (.pop, 1) := dGR_45_lawrows_1354.2.2.1
theorem dL_law_1701 : decode cL_law 1701 = .ok (.goto 349, 3) := dGR_45_lawrows_1354.2.2.2.1
theorem dL_law_1704 : decode cL_law 1704 = .ok (.aload_n 1, 1) := dGR_45_lawrows_1354.2.2.2.2.1
theorem dL_law_1705 : decode cL_law 1705 = .ok (.aload_n 0, 1) := dGR_45_lawrows_1354.2.2.2.2.2.1
theorem dL_law_1706 : decode cL_law 1706 = .ok (.iload_n 3, 1) := dGR_45_lawrows_1354.2.2.2.2.2.2.1
theorem dL_law_1707 : decode cL_law 1707 = .ok (.iconst 1, 1) := dGR_45_lawrows_1354.2.2.2.2.2.2.2.1
theorem dL_law_1708 : decode cL_law 1708 = .ok (.iadd, 1) := dGR_45_lawrows_1354.2.2.2.2.2.2.2.2.1
theorem dL_law_1709 : decode cL_law 1709 = .ok (.iaload, 1) := dGR_45_lawrows_1354.2.2.2.2.2.2.2.2.2.1
theorem dL_law_1710 : decode cL_law 1710 = .ok (.aload_n 0, 1) := dGR_45_lawrows_1354.2.2.2.2.2.2.2.2.2.2.1
theorem dL_law_1711 : decode cL_law 1711 = .ok (.iload_n 3, 1) := dGR_45_lawrows_1354.2.2.2.2.2.2.2.2.2.2.2
set_option maxRecDepth 100000 in
theorem dGR_45_lawrows_1355 : (decode cL_law 1712 = .ok (.iconst 2, 1)) ∧ (decode cL_law 1713 = .ok (.iadd, 1)) ∧ (decode cL_law 1714 = .ok (.iaload, 1)) ∧ (decode cL_law 1715 = .ok (.invokevirtual 179, 3)) ∧ (decode cL_law 1718 = .ok (.pop, 1)) ∧ (decode cL_law 1719 = .ok (.aload_n 2, 1)) ∧ (decode cL_law 1720 = .ok (.aload_n 0, 1)) ∧ (decode cL_law 1721 = .ok (.iload_n 3, 1)) ∧ (decode cL_law 1722 = .ok (.iconst 1, 1)) ∧ (decode cL_law 1723 = .ok (.iadd, 1)) ∧ (decode cL_law 1724 = .ok (.iaload, 1)) ∧ (decode cL_law 1725 = .ok (.aload_n 0, 1)) := by decide +kernel
theorem dL_law_1712 : decode cL_law 1712 = .ok (.iconst 2, 1) := dGR_45_lawrows_1355.1
theorem dL_law_1713 : decode cL_law 1713 = .ok (.iadd, 1) := dGR_45_lawrows_1355.2.1
theorem dL_law_1714 : decode cL_law 1714 = .ok (.iaload, 1) := dGR_45_lawrows_1355.2.2.1
theorem dL_law_1715 : decode cL_law 1715 = .ok (.invokevirtual 179, 3) := dGR_45_lawrows_1355.2.2.2.1
theorem dL_law_1718 : decode cL_law 1718 = .ok (.pop, 1) := dGR_45_lawrows_1355.2.2.2.2.1
theorem dL_law_1719 : decode cL_law 1719 = .ok (.aload_n 2, 1) := dGR_45_lawrows_1355.2.2.2.2.2.1
theorem dL_law_1720 : decode cL_law 1720 = .ok (.aload_n 0, 1) := dGR_45_lawrows_1355.2.2.2.2.2.2.1
theorem dL_law_1721 : decode cL_law 1721 = .ok (.iload_n 3, 1) := dGR_45_lawrows_1355.2.2.2.2.2.2.2.1
theorem dL_law_1722 : decode cL_law 1722 = .ok (.iconst 1, 1) := dGR_45_lawrows_1355.2.2.2.2.2.2.2.2.1
theorem dL_law_1723 : decode cL_law 1723 = .ok (.iadd, 1) := dGR_45_lawrows_1355.2.2.2.2.2.2.2.2.2.1
theorem dL_law_1724 : decode cL_law 1724 = .ok (.iaload, 1) := dGR_45_lawrows_1355.2.2.2.2.2.2.2.2.2.2.1
theorem dL_law_1725 : decode cL_law 1725 = .ok (.aload_n 0, 1) := dGR_45_lawrows_1355.2.2.2.2.2.2.2.2.2.2.2
set_option maxRecDepth 100000 in
theorem dGR_45_lawrows_1356 : (decode cL_law 1726 = .ok (.iload_n 3, 1)) ∧ (decode cL_law 1727 = .ok (.iconst 2, 1)) ∧ (decode cL_law 1728 = .ok (.iadd, 1)) ∧ (decode cL_law 1729 = .ok (.iaload, 1)) ∧ (decode cL_law 1730 = .ok (.invokevirtual 182, 3)) ∧ (decode cL_law 1733 = .ok (.pop, 1)) ∧ (decode cL_law 1734 = .ok (.goto 316, 3)) ∧ (decode cL_law 1737 = .ok (.aload_n 1, 1)) ∧ (decode cL_law 1738 = .ok (.aload_n 0, 1)) ∧ (decode cL_law 1739 = .ok (.iload_n 3, 1)) ∧ (decode cL_law 1740 = .ok (.iconst 1, 1)) ∧ (decode cL_law 1741 = .ok (.iadd, 1)) := by decide +kernel
theorem dL_law_1726 : decode cL_law 1726 = .ok (.iload_n 3, 1) := dGR_45_lawrows_1356.1
theorem dL_law_1727 : decode cL_law 1727 = .ok (.iconst 2, 1) := dGR_45_lawrows_1356.2.1
theorem dL_law_1728 : decode cL_law 1728 = .ok (.iadd, 1) := dGR_45_lawrows_1356.2.2.1
theorem dL_law_1729 : decode cL_law 1729 = .ok (.iaload, 1) := dGR_45_lawrows_1356.2.2.2.1
theorem dL_law_1730 : decode cL_law 1730 = .ok (.invokevirtual 182, 3) := dGR_45_lawrows_1356.2.2.2.2.1
theorem dL_law_1733 : decode cL_law 1733 = .ok (.pop, 1) := dGR_45_lawrows_1356.2.2.2.2.2.1
theorem dL_law_1734 : decode cL_law 1734 = .ok (.goto 316, 3) := dGR_45_lawrows_1356.2.2.2.2.2.2.1
theorem dL_law_1737 : decode cL_law 1737 = .ok (.aload_n 1, 1) := dGR_45_lawrows_1356.2.2.2.2.2.2.2.1
theorem dL_law_1738 : decode cL_law 1738 = .ok (.aload_n 0, 1) := dGR_45_lawrows_1356.2.2.2.2.2.2.2.2.1
theorem dL_law_1739 : decode cL_law 1739 = .ok (.iload_n 3, 1) := dGR_45_lawrows_1356.2.2.2.2.2.2.2.2.2.1
theorem dL_law_1740 : decode cL_law 1740 = .ok (.iconst 1, 1) := dGR_45_lawrows_1356.2.2.2.2.2.2.2.2.2.2.1
theorem dL_law_1741 : decode cL_law 1741 = .ok (.iadd, 1) := dGR_45_lawrows_1356.2.2.2.2.2.2.2.2.2.2.2
set_option maxRecDepth 100000 in
theorem dGR_45_lawrows_1357 : (decode cL_law 1742 = .ok (.iaload, 1)) ∧ (decode cL_law 1743 = .ok (.aload_n 0, 1)) ∧ (decode cL_law 1744 = .ok (.iload_n 3, 1)) ∧ (decode cL_law 1745 = .ok (.iconst 2, 1)) ∧ (decode cL_law 1746 = .ok (.iadd, 1)) ∧ (decode cL_law 1747 = .ok (.iaload, 1)) ∧ (decode cL_law 1748 = .ok (.invokevirtual 183, 3)) ∧ (decode cL_law 1751 = .ok (.pop, 1)) ∧ (decode cL_law 1752 = .ok (.aload_n 2, 1)) ∧ (decode cL_law 1753 = .ok (.aload_n 0, 1)) ∧ (decode cL_law 1754 = .ok (.iload_n 3, 1)) ∧ (decode cL_law 1755 = .ok (.iconst 1, 1)) := by decide +kernel
theorem dL_law_1742 : decode cL_law 1742 = .ok (.iaload, 1) := dGR_45_lawrows_1357.1
theorem dL_law_1743 : decode cL_law 1743 = .ok (.aload_n 0, 1) := dGR_45_lawrows_1357.2.1
theorem dL_law_1744 : decode cL_law 1744 = .ok (.iload_n 3, 1) := dGR_45_lawrows_1357.2.2.1
theorem dL_law_1745 : decode cL_law 1745 = .ok (.iconst 2, 1) := dGR_45_lawrows_1357.2.2.2.1
theorem dL_law_1746 : decode cL_law 1746 = .ok (.iadd, 1) := dGR_45_lawrows_1357.2.2.2.2.1
theorem dL_law_1747 : decode cL_law 1747 = .ok (.iaload, 1) := dGR_45_lawrows_1357.2.2.2.2.2.1
theorem dL_law_1748 : decode cL_law 1748 = .ok (.invokevirtual 183, 3) := dGR_45_lawrows_1357.2.2.2.2.2.2.1
theorem dL_law_1751 : decode cL_law 1751 = .ok (.pop, 1) := dGR_45_lawrows_1357.2.2.2.2.2.2.2.1
theorem dL_law_1752 : decode cL_law 1752 = .ok (.aload_n 2, 1) := dGR_45_lawrows_1357.2.2.2.2.2.2.2.2.1
theorem dL_law_1753 : decode cL_law 1753 = .ok (.aload_n 0, 1) := dGR_45_lawrows_1357.2.2.2.2.2.2.2.2.2.1
theorem dL_law_1754 : decode cL_law 1754 = .ok (.iload_n 3, 1) := dGR_45_lawrows_1357.2.2.2.2.2.2.2.2.2.2.1
theorem dL_law_1755 : decode cL_law 1755 = .ok (.iconst 1, 1) := dGR_45_lawrows_1357.2.2.2.2.2.2.2.2.2.2.2
set_option maxRecDepth 100000 in
theorem dGR_45_lawrows_1358 : (decode cL_law 1756 = .ok (.iadd, 1)) ∧ (decode cL_law 1757 = .ok (.iaload, 1)) ∧ (decode cL_law 1758 = .ok (.aload_n 0, 1)) ∧ (decode cL_law 1759 = .ok (.iload_n 3, 1)) ∧ (decode cL_law 1760 = .ok (.iconst 2, 1)) ∧ (decode cL_law 1761 = .ok (.iadd, 1)) ∧ (decode cL_law 1762 = .ok (.iaload, 1)) ∧ (decode cL_law 1763 = .ok (.invokevirtual 186, 3)) ∧ (decode cL_law 1766 = .ok (.pop, 1)) ∧ (decode cL_law 1767 = .ok (.goto 283, 3)) ∧ (decode cL_law 1770 = .ok (.aload_n 1, 1)) ∧ (decode cL_law 1771 = .ok (.aload_n 0, 1)) := by decide +kernel
theorem dL_law_1756 : decode cL_law 1756 = .ok (.iadd, 1) := dGR_45_lawrows_1358.1
theorem dL_law_1757 : decode cL_law 1757 = .ok (.iaload, 1) := dGR_45_lawrows_1358.2.1
theorem dL_law_1758 : decode cL_law 1758 = .ok (.aload_n 0, 1) := dGR_45_lawrows_1358.2.2.1
theorem dL_law_1759 : decode cL_law 1759 = .ok (.iload_n 3, 1) := dGR_45_lawrows_1358.2.2.2.1
theorem dL_law_1760 : decode cL_law 1760 = .ok (.iconst 2, 1) := dGR_45_lawrows_1358.2.2.2.2.1
theorem dL_law_1761 : decode cL_law 1761 = .ok (.iadd, 1) := dGR_45_lawrows_1358.2.2.2.2.2.1
theorem dL_law_1762 : decode cL_law 1762 = .ok (.iaload, 1) := dGR_45_lawrows_1358.2.2.2.2.2.2.1
theorem dL_law_1763 : decode cL_law 1763 = .ok (.invokevirtual 186, 3) := dGR_45_lawrows_1358.2.2.2.2.2.2.2.1
theorem dL_law_1766 : decode cL_law 1766 = .ok (.pop, 1) := dGR_45_lawrows_1358.2.2.2.2.2.2.2.2.1
theorem dL_law_1767 : decode cL_law 1767 = .ok (.goto 283, 3) := dGR_45_lawrows_1358.2.2.2.2.2.2.2.2.2.1
theorem dL_law_1770 : decode cL_law 1770 = .ok (.aload_n 1, 1) := dGR_45_lawrows_1358.2.2.2.2.2.2.2.2.2.2.1
theorem dL_law_1771 : decode cL_law 1771 = .ok (.aload_n 0, 1) := dGR_45_lawrows_1358.2.2.2.2.2.2.2.2.2.2.2
set_option maxRecDepth 100000 in
theorem dGR_45_lawrows_1359 : (decode cL_law 1772 = .ok (.iload_n 3, 1)) ∧ (decode cL_law 1773 = .ok (.iconst 1, 1)) ∧ (decode cL_law 1774 = .ok (.iadd, 1)) ∧ (decode cL_law 1775 = .ok (.iaload, 1)) ∧ (decode cL_law 1776 = .ok (.aload_n 0, 1)) ∧ (decode cL_law 1777 = .ok (.iload_n 3, 1)) ∧ (decode cL_law 1778 = .ok (.iconst 2, 1)) ∧ (decode cL_law 1779 = .ok (.iadd, 1)) ∧ (decode cL_law 1780 = .ok (.iaload, 1)) ∧ (decode cL_law 1781 = .ok (.invokevirtual 187, 3)) ∧ (decode cL_law 1784 = .ok (.pop, 1)) ∧ (decode cL_law 1785 = .ok (.aload_n 2, 1)) := by decide +kernel
theorem dL_law_1772 : decode cL_law 1772 = .ok (.iload_n 3, 1) := dGR_45_lawrows_1359.1
theorem dL_law_1773 : decode cL_law 1773 = .ok (.iconst 1, 1) := dGR_45_lawrows_1359.2.1
theorem dL_law_1774 : decode cL_law 1774 = .ok (.iadd, 1) := dGR_45_lawrows_1359.2.2.1
theorem dL_law_1775 : decode cL_law 1775 = .ok (.iaload, 1) := dGR_45_lawrows_1359.2.2.2.1
theorem dL_law_1776 : decode cL_law 1776 = .ok (.aload_n 0, 1) := dGR_45_lawrows_1359.2.2.2.2.1
theorem dL_law_1777 : decode cL_law 1777 = .ok (.iload_n 3, 1) := dGR_45_lawrows_1359.2.2.2.2.2.1
theorem dL_law_1778 : decode cL_law 1778 = .ok (.iconst 2, 1) := dGR_45_lawrows_1359.2.2.2.2.2.2.1
theorem dL_law_1779 : decode cL_law 1779 = .ok (.iadd, 1) := dGR_45_lawrows_1359.2.2.2.2.2.2.2.1
theorem dL_law_1780 : decode cL_law 1780 = .ok (.iaload, 1) := dGR_45_lawrows_1359.2.2.2.2.2.2.2.2.1
theorem dL_law_1781 : decode cL_law 1781 = .ok (.invokevirtual 187, 3) := dGR_45_lawrows_1359.2.2.2.2.2.2.2.2.2.1
theorem dL_law_1784 : decode cL_law 1784 = .ok (.pop, 1) := dGR_45_lawrows_1359.2.2.2.2.2.2.2.2.2.2.1
theorem dL_law_1785 : decode cL_law 1785 = .ok (.aload_n 2, 1) := dGR_45_lawrows_1359.2.2.2.2.2.2.2.2.2.2.2
set_option maxRecDepth 100000 in
theorem dGR_45_lawrows_1360 : (decode cL_law 1786 = .ok (.aload_n 0, 1)) ∧ (decode cL_law 1787 = .ok (.iload_n 3, 1)) ∧ (decode cL_law 1788 = .ok (.iconst 1, 1)) ∧ (decode cL_law 1789 = .ok (.iadd, 1)) ∧ (decode cL_law 1790 = .ok (.iaload, 1)) ∧ (decode cL_law 1791 = .ok (.aload_n 0, 1)) ∧ (decode cL_law 1792 = .ok (.iload_n 3, 1)) ∧ (decode cL_law 1793 = .ok (.iconst 2, 1)) ∧ (decode cL_law 1794 = .ok (.iadd, 1)) ∧ (decode cL_law 1795 = .ok (.iaload, 1)) ∧ (decode cL_law 1796 = .ok (.invokevirtual 190, 3)) ∧ (decode cL_law 1799 = .ok (.pop, 1)) := by decide +kernel
theorem dL_law_1786 : decode cL_law 1786 = .ok (.aload_n 0, 1) := dGR_45_lawrows_1360.1
theorem dL_law_1787 : decode cL_law 1787 = .ok (.iload_n 3, 1) := dGR_45_lawrows_1360.2.1
theorem dL_law_1788 : decode cL_law 1788 = .ok (.iconst 1, 1) := dGR_45_lawrows_1360.2.2.1
theorem dL_law_1789 : decode cL_law 1789 = .ok (.iadd, 1) := dGR_45_lawrows_1360.2.2.2.1
theorem dL_law_1790 : decode cL_law 1790 = .ok (.iaload, 1) := dGR_45_lawrows_1360.2.2.2.2.1
theorem dL_law_1791 : decode cL_law 1791 = .ok (.aload_n 0, 1) := dGR_45_lawrows_1360.2.2.2.2.2.1
theorem dL_law_1792 : decode cL_law 1792 = .ok (.iload_n 3, 1) := dGR_45_lawrows_1360.2.2.2.2.2.2.1
theorem dL_law_1793 : decode cL_law 1793 = .ok (.iconst 2, 1) := dGR_45_lawrows_1360.2.2.2.2.2.2.2.1
theorem dL_law_1794 : decode cL_law 1794 = .ok (.iadd, 1) := dGR_45_lawrows_1360.2.2.2.2.2.2.2.2.1
theorem dL_law_1795 : decode cL_law 1795 = .ok (.iaload, 1) := dGR_45_lawrows_1360.2.2.2.2.2.2.2.2.2.1
theorem dL_law_1796 : decode cL_law 1796 = .ok (.invokevirtual 190, 3) := dGR_45_lawrows_1360.2.2.2.2.2.2.2.2.2.2.1
theorem dL_law_1799 : decode cL_law 1799 = .ok (.pop, 1) := dGR_45_lawrows_1360.2.2.2.2.2.2.2.2.2.2.2
set_option maxRecDepth 100000 in
theorem dGR_45_lawrows_1361 : (decode cL_law 1800 = .ok (.goto 250, 3)) ∧ (decode cL_law 1803 = .ok (.aload_n 1, 1)) ∧ (decode cL_law 1804 = .ok (.aload_n 0, 1)) ∧ (decode cL_law 1805 = .ok (.iload_n 3, 1)) ∧ (decode cL_law 1806 = .ok (.iconst 1, 1)) ∧ (decode cL_law 1807 = .ok (.iadd, 1)) ∧ (decode cL_law 1808 = .ok (.iaload, 1)) ∧ (decode cL_law 1809 = .ok (.aload_n 0, 1)) ∧ (decode cL_law 1810 = .ok (.iload_n 3, 1)) ∧ (decode cL_law 1811 = .ok (.iconst 2, 1)) ∧ (decode cL_law 1812 = .ok (.iadd, 1)) ∧ (decode cL_law 1813 = .ok (.iaload, 1)) := by decide +kernel
theorem dL_law_1800 : decode cL_law 1800 = .ok (.goto 250, 3) := dGR_45_lawrows_1361.1
theorem dL_law_1803 : decode cL_law 1803 = .ok (.aload_n 1, 1) := dGR_45_lawrows_1361.2.1
theorem dL_law_1804 : decode cL_law 1804 = .ok (.aload_n 0, 1) := dGR_45_lawrows_1361.2.2.1
theorem dL_law_1805 : decode cL_law 1805 = .ok (.iload_n 3, 1) := dGR_45_lawrows_1361.2.2.2.1
theorem dL_law_1806 : decode cL_law 1806 = .ok (.iconst 1, 1) := dGR_45_lawrows_1361.2.2.2.2.1
theorem dL_law_1807 : decode cL_law 1807 = .ok (.iadd, 1) := dGR_45_lawrows_1361.2.2.2.2.2.1
theorem dL_law_1808 : decode cL_law 1808 = .ok (.iaload, 1) := dGR_45_lawrows_1361.2.2.2.2.2.2.1
theorem dL_law_1809 : decode cL_law 1809 = .ok (.aload_n 0, 1) := dGR_45_lawrows_1361.2.2.2.2.2.2.2.1
theorem dL_law_1810 : decode cL_law 1810 = .ok (.iload_n 3, 1) := dGR_45_lawrows_1361.2.2.2.2.2.2.2.2.1
theorem dL_law_1811 : decode cL_law 1811 = .ok (.iconst 2, 1) := dGR_45_lawrows_1361.2.2.2.2.2.2.2.2.2.1
theorem dL_law_1812 : decode cL_law 1812 = .ok (.iadd, 1) := dGR_45_lawrows_1361.2.2.2.2.2.2.2.2.2.2.1
theorem dL_law_1813 : decode cL_law 1813 = .ok (.iaload, 1) := dGR_45_lawrows_1361.2.2.2.2.2.2.2.2.2.2.2
set_option maxRecDepth 100000 in
theorem dGR_45_lawrows_1362 : (decode cL_law 1814 = .ok (.aload_n 0, 1)) ∧ (decode cL_law 1815 = .ok (.iload_n 3, 1)) ∧ (decode cL_law 1816 = .ok (.iconst 3, 1)) ∧ (decode cL_law 1817 = .ok (.iadd, 1)) ∧ (decode cL_law 1818 = .ok (.iaload, 1)) ∧ (decode cL_law 1819 = .ok (.invokevirtual 191, 3)) ∧ (decode cL_law 1822 = .ok (.pop, 1)) ∧ (decode cL_law 1823 = .ok (.aload_n 2, 1)) ∧ (decode cL_law 1824 = .ok (.aload_n 0, 1)) ∧ (decode cL_law 1825 = .ok (.iload_n 3, 1)) ∧ (decode cL_law 1826 = .ok (.iconst 1, 1)) ∧ (decode cL_law 1827 = .ok (.iadd, 1)) := by decide +kernel
theorem dL_law_1814 : decode cL_law 1814 = .ok (.aload_n 0, 1) := dGR_45_lawrows_1362.1
theorem dL_law_1815 : decode cL_law 1815 = .ok (.iload_n 3, 1) := dGR_45_lawrows_1362.2.1
theorem dL_law_1816 : decode cL_law 1816 = .ok (.iconst 3, 1) := dGR_45_lawrows_1362.2.2.1
theorem dL_law_1817 : decode cL_law 1817 = .ok (.iadd, 1) := dGR_45_lawrows_1362.2.2.2.1
theorem dL_law_1818 : decode cL_law 1818 = .ok (.iaload, 1) := dGR_45_lawrows_1362.2.2.2.2.1
theorem dL_law_1819 : decode cL_law 1819 = .ok (.invokevirtual 191, 3) := dGR_45_lawrows_1362.2.2.2.2.2.1
theorem dL_law_1822 : decode cL_law 1822 = .ok (.pop, 1) := dGR_45_lawrows_1362.2.2.2.2.2.2.1
theorem dL_law_1823 : decode cL_law 1823 = .ok (.aload_n 2, 1) := dGR_45_lawrows_1362.2.2.2.2.2.2.2.1
theorem dL_law_1824 : decode cL_law 1824 = .ok (.aload_n 0, 1) := dGR_45_lawrows_1362.2.2.2.2.2.2.2.2.1
theorem dL_law_1825 : decode cL_law 1825 = .ok (.iload_n 3, 1) := dGR_45_lawrows_1362.2.2.2.2.2.2.2.2.2.1
theorem dL_law_1826 : decode cL_law 1826 = .ok (.iconst 1, 1) := dGR_45_lawrows_1362.2.2.2.2.2.2.2.2.2.2.1
theorem dL_law_1827 : decode cL_law 1827 = .ok (.iadd, 1) := dGR_45_lawrows_1362.2.2.2.2.2.2.2.2.2.2.2
set_option maxRecDepth 100000 in
theorem dGR_45_lawrows_1363 : (decode cL_law 1828 = .ok (.iaload, 1)) ∧ (decode cL_law 1829 = .ok (.aload_n 0, 1)) ∧ (decode cL_law 1830 = .ok (.iload_n 3, 1)) ∧ (decode cL_law 1831 = .ok (.iconst 2, 1)) ∧ (decode cL_law 1832 = .ok (.iadd, 1)) ∧ (decode cL_law 1833 = .ok (.iaload, 1)) ∧ (decode cL_law 1834 = .ok (.aload_n 0, 1)) ∧ (decode cL_law 1835 = .ok (.iload_n 3, 1)) ∧ (decode cL_law 1836 = .ok (.iconst 3, 1)) ∧ (decode cL_law 1837 = .ok (.iadd, 1)) ∧ (decode cL_law 1838 = .ok (.iaload, 1)) ∧ (decode cL_law 1839 = .ok (.invokevirtual 194, 3)) := by decide +kernel
theorem dL_law_1828 : decode cL_law 1828 = .ok (.iaload, 1) := dGR_45_lawrows_1363.1
theorem dL_law_1829 : decode cL_law 1829 = .ok (.aload_n 0, 1) := dGR_45_lawrows_1363.2.1
theorem dL_law_1830 : decode cL_law 1830 = .ok (.iload_n 3, 1) := dGR_45_lawrows_1363.2.2.1
theorem dL_law_1831 : decode cL_law 1831 = .ok (.iconst 2, 1) := dGR_45_lawrows_1363.2.2.2.1
theorem dL_law_1832 : decode cL_law 1832 = .ok (.iadd, 1) := dGR_45_lawrows_1363.2.2.2.2.1
theorem dL_law_1833 : decode cL_law 1833 = .ok (.iaload, 1) := dGR_45_lawrows_1363.2.2.2.2.2.1
theorem dL_law_1834 : decode cL_law 1834 = .ok (.aload_n 0, 1) := dGR_45_lawrows_1363.2.2.2.2.2.2.1
theorem dL_law_1835 : decode cL_law 1835 = .ok (.iload_n 3, 1) := dGR_45_lawrows_1363.2.2.2.2.2.2.2.1
theorem dL_law_1836 : decode cL_law 1836 = .ok (.iconst 3, 1) := dGR_45_lawrows_1363.2.2.2.2.2.2.2.2.1
theorem dL_law_1837 : decode cL_law 1837 = .ok (.iadd, 1) := dGR_45_lawrows_1363.2.2.2.2.2.2.2.2.2.1
theorem dL_law_1838 : decode cL_law 1838 = .ok (.iaload, 1) := dGR_45_lawrows_1363.2.2.2.2.2.2.2.2.2.2.1
theorem dL_law_1839 : decode cL_law 1839 = .ok (.invokevirtual 194, 3) := dGR_45_lawrows_1363.2.2.2.2.2.2.2.2.2.2.2
set_option maxRecDepth 100000 in
theorem dGR_45_lawrows_1364 : (decode cL_law 1842 = .ok (.pop, 1)) ∧ (decode cL_law 1843 = .ok (.goto 207, 3)) ∧ (decode cL_law 1846 = .ok (.aload_n 1, 1)) ∧ (decode cL_law 1847 = .ok (.aload_n 0, 1)) ∧ (decode cL_law 1848 = .ok (.iload_n 3, 1)) ∧ (decode cL_law 1849 = .ok (.iconst 1, 1)) ∧ (decode cL_law 1850 = .ok (.iadd, 1)) ∧ (decode cL_law 1851 = .ok (.iaload, 1)) ∧ (decode cL_law 1852 = .ok (.aload_n 0, 1)) ∧ (decode cL_law 1853 = .ok (.iload_n 3, 1)) ∧ (decode cL_law 1854 = .ok (.iconst 2, 1)) ∧ (decode cL_law 1855 = .ok (.iadd, 1)) := by decide +kernel
theorem dL_law_1842 : decode cL_law 1842 = .ok (.pop, 1) := dGR_45_lawrows_1364.1
theorem dL_law_1843 : decode cL_law 1843 = .ok (.goto 207, 3) := dGR_45_lawrows_1364.2.1
theorem dL_law_1846 : decode cL_law 1846 = .ok (.aload_n 1, 1) := dGR_45_lawrows_1364.2.2.1
theorem dL_law_1847 : decode cL_law 1847 = .ok (.aload_n 0, 1) := dGR_45_lawrows_1364.2.2.2.1
theorem dL_law_1848 : decode cL_law 1848 = .ok (.iload_n 3, 1) := dGR_45_lawrows_1364.2.2.2.2.1
theorem dL_law_1849 : decode cL_law 1849 = .ok (.iconst 1, 1) := dGR_45_lawrows_1364.2.2.2.2.2.1
theorem dL_law_1850 : decode cL_law 1850 = .ok (.iadd, 1) := dGR_45_lawrows_1364.2.2.2.2.2.2.1
theorem dL_law_1851 : decode cL_law 1851 = .ok (.iaload, 1) := dGR_45_lawrows_1364.2.2.2.2.2.2.2.1
theorem dL_law_1852 : decode cL_law 1852 = .ok (.aload_n 0, 1) := dGR_45_lawrows_1364.2.2.2.2.2.2.2.2.1
theorem dL_law_1853 : decode cL_law 1853 = .ok (.iload_n 3, 1) := dGR_45_lawrows_1364.2.2.2.2.2.2.2.2.2.1
theorem dL_law_1854 : decode cL_law 1854 = .ok (.iconst 2, 1) := dGR_45_lawrows_1364.2.2.2.2.2.2.2.2.2.2.1
theorem dL_law_1855 : decode cL_law 1855 = .ok (.iadd, 1) := dGR_45_lawrows_1364.2.2.2.2.2.2.2.2.2.2.2
set_option maxRecDepth 100000 in
theorem dGR_45_lawrows_1365 : (decode cL_law 1856 = .ok (.iaload, 1)) ∧ (decode cL_law 1857 = .ok (.aload_n 0, 1)) ∧ (decode cL_law 1858 = .ok (.iload_n 3, 1)) ∧ (decode cL_law 1859 = .ok (.iconst 3, 1)) ∧ (decode cL_law 1860 = .ok (.iadd, 1)) ∧ (decode cL_law 1861 = .ok (.iaload, 1)) ∧ (decode cL_law 1862 = .ok (.invokevirtual 195, 3)) ∧ (decode cL_law 1865 = .ok (.pop, 1)) ∧ (decode cL_law 1866 = .ok (.aload_n 2, 1)) ∧ (decode cL_law 1867 = .ok (.aload_n 0, 1)) ∧ (decode cL_law 1868 = .ok (.iload_n 3, 1)) ∧ (decode cL_law 1869 = .ok (.iconst 1, 1)) := by decide +kernel
theorem dL_law_1856 : decode cL_law 1856 = .ok (.iaload, 1) := dGR_45_lawrows_1365.1
theorem dL_law_1857 : decode cL_law 1857 = .ok (.aload_n 0, 1) := dGR_45_lawrows_1365.2.1
theorem dL_law_1858 : decode cL_law 1858 = .ok (.iload_n 3, 1) := dGR_45_lawrows_1365.2.2.1
theorem dL_law_1859 : decode cL_law 1859 = .ok (.iconst 3, 1) := dGR_45_lawrows_1365.2.2.2.1
theorem dL_law_1860 : decode cL_law 1860 = .ok (.iadd, 1) := dGR_45_lawrows_1365.2.2.2.2.1
theorem dL_law_1861 : decode cL_law 1861 = .ok (.iaload, 1) := dGR_45_lawrows_1365.2.2.2.2.2.1
theorem dL_law_1862 : decode cL_law 1862 = .ok (.invokevirtual 195, 3) := dGR_45_lawrows_1365.2.2.2.2.2.2.1
theorem dL_law_1865 : decode cL_law 1865 = .ok (.pop, 1) := dGR_45_lawrows_1365.2.2.2.2.2.2.2.1
theorem dL_law_1866 : decode cL_law 1866 = .ok (.aload_n 2, 1) := dGR_45_lawrows_1365.2.2.2.2.2.2.2.2.1
theorem dL_law_1867 : decode cL_law 1867 = .ok (.aload_n 0, 1) := dGR_45_lawrows_1365.2.2.2.2.2.2.2.2.2.1
theorem dL_law_1868 : decode cL_law 1868 = .ok (.iload_n 3, 1) := dGR_45_lawrows_1365.2.2.2.2.2.2.2.2.2.2.1
theorem dL_law_1869 : decode cL_law 1869 = .ok (.iconst 1, 1) := dGR_45_lawrows_1365.2.2.2.2.2.2.2.2.2.2.2
set_option maxRecDepth 100000 in
theorem dGR_45_lawrows_1366 : (decode cL_law 1870 = .ok (.iadd, 1)) ∧ (decode cL_law 1871 = .ok (.iaload, 1)) ∧ (decode cL_law 1872 = .ok (.aload_n 0, 1)) ∧ (decode cL_law 1873 = .ok (.iload_n 3, 1)) ∧ (decode cL_law 1874 = .ok (.iconst 2, 1)) ∧ (decode cL_law 1875 = .ok (.iadd, 1)) ∧ (decode cL_law 1876 = .ok (.iaload, 1)) ∧ (decode cL_law 1877 = .ok (.aload_n 0, 1)) ∧ (decode cL_law 1878 = .ok (.iload_n 3, 1)) ∧ (decode cL_law 1879 = .ok (.iconst 3, 1)) ∧ (decode cL_law 1880 = .ok (.iadd, 1)) ∧ (decode cL_law 1881 = .ok (.iaload, 1)) := by decide +kernel
theorem dL_law_1870 : decode cL_law 1870 = .ok (.iadd, 1) := dGR_45_lawrows_1366.1
theorem dL_law_1871 : decode cL_law 1871 = .ok (.iaload, 1) := dGR_45_lawrows_1366.2.1
theorem dL_law_1872 : decode cL_law 1872 = .ok (.aload_n 0, 1) := dGR_45_lawrows_1366.2.2.1
theorem dL_law_1873 : decode cL_law 1873 = .ok (.iload_n 3, 1) := dGR_45_lawrows_1366.2.2.2.1
theorem dL_law_1874 : decode cL_law 1874 = .ok (.iconst 2, 1) := dGR_45_lawrows_1366.2.2.2.2.1
theorem dL_law_1875 : decode cL_law 1875 = .ok (.iadd, 1) := dGR_45_lawrows_1366.2.2.2.2.2.1
theorem dL_law_1876 : decode cL_law 1876 = .ok (.iaload, 1) := dGR_45_lawrows_1366.2.2.2.2.2.2.1
theorem dL_law_1877 : decode cL_law 1877 = .ok (.aload_n 0, 1) := dGR_45_lawrows_1366.2.2.2.2.2.2.2.1
theorem dL_law_1878 : decode cL_law 1878 = .ok (.iload_n 3, 1) := dGR_45_lawrows_1366.2.2.2.2.2.2.2.2.1
theorem dL_law_1879 : decode cL_law 1879 = .ok (.iconst 3, 1) := dGR_45_lawrows_1366.2.2.2.2.2.2.2.2.2.1
theorem dL_law_1880 : decode cL_law 1880 = .ok (.iadd, 1) := dGR_45_lawrows_1366.2.2.2.2.2.2.2.2.2.2.1
theorem dL_law_1881 : decode cL_law 1881 = .ok (.iaload, 1) := dGR_45_lawrows_1366.2.2.2.2.2.2.2.2.2.2.2
set_option maxRecDepth 100000 in
theorem dGR_45_lawrows_1367 : (decode cL_law 1882 = .ok (.invokevirtual 198, 3)) ∧ (decode cL_law 1885 = .ok (.pop, 1)) ∧ (decode cL_law 1886 = .ok (.goto 164, 3)) ∧ (decode cL_law 1889 = .ok (.aload_n 1, 1)) ∧ (decode cL_law 1890 = .ok (.aload_n 0, 1)) ∧ (decode cL_law 1891 = .ok (.iload_n 3, 1)) ∧ (decode cL_law 1892 = .ok (.iconst 1, 1)) ∧ (decode cL_law 1893 = .ok (.iadd, 1)) ∧ (decode cL_law 1894 = .ok (.iaload, 1)) ∧ (decode cL_law 1895 = .ok (.aload_n 0, 1)) ∧ (decode cL_law 1896 = .ok (.iload_n 3, 1)) ∧ (decode cL_law 1897 = .ok (.iconst 2, 1)) := by decide +kernel
theorem dL_law_1882 : decode cL_law 1882 = .ok (.invokevirtual 198, 3) := dGR_45_lawrows_1367.1
theorem dL_law_1885 : decode cL_law 1885 = .ok (.pop, 1) := dGR_45_lawrows_1367.2.1
theorem dL_law_1886 : decode cL_law 1886 = .ok (.goto 164, 3) := dGR_45_lawrows_1367.2.2.1
theorem dL_law_1889 : decode cL_law 1889 = .ok (.aload_n 1, 1) := dGR_45_lawrows_1367.2.2.2.1
theorem dL_law_1890 : decode cL_law 1890 = .ok (.aload_n 0, 1) := dGR_45_lawrows_1367.2.2.2.2.1
theorem dL_law_1891 : decode cL_law 1891 = .ok (.iload_n 3, 1) := dGR_45_lawrows_1367.2.2.2.2.2.1
theorem dL_law_1892 : decode cL_law 1892 = .ok (.iconst 1, 1) := dGR_45_lawrows_1367.2.2.2.2.2.2.1
theorem dL_law_1893 : decode cL_law 1893 = .ok (.iadd, 1) := dGR_45_lawrows_1367.2.2.2.2.2.2.2.1
theorem dL_law_1894 : decode cL_law 1894 = .ok (.iaload, 1) := dGR_45_lawrows_1367.2.2.2.2.2.2.2.2.1
theorem dL_law_1895 : decode cL_law 1895 = .ok (.aload_n 0, 1) := dGR_45_lawrows_1367.2.2.2.2.2.2.2.2.2.1
theorem dL_law_1896 : decode cL_law 1896 = .ok (.iload_n 3, 1) := dGR_45_lawrows_1367.2.2.2.2.2.2.2.2.2.2.1
theorem dL_law_1897 : decode cL_law 1897 = .ok (.iconst 2, 1) := dGR_45_lawrows_1367.2.2.2.2.2.2.2.2.2.2.2
set_option maxRecDepth 100000 in
theorem dGR_45_lawrows_1368 : (decode cL_law 1898 = .ok (.iadd, 1)) ∧ (decode cL_law 1899 = .ok (.iaload, 1)) ∧ (decode cL_law 1900 = .ok (.aload_n 0, 1)) ∧ (decode cL_law 1901 = .ok (.iload_n 3, 1)) ∧ (decode cL_law 1902 = .ok (.iconst 3, 1)) ∧ (decode cL_law 1903 = .ok (.iadd, 1)) ∧ (decode cL_law 1904 = .ok (.iaload, 1)) ∧ (decode cL_law 1905 = .ok (.aload_n 0, 1)) ∧ (decode cL_law 1906 = .ok (.iload_n 3, 1)) ∧ (decode cL_law 1907 = .ok (.iconst 4, 1)) ∧ (decode cL_law 1908 = .ok (.iadd, 1)) ∧ (decode cL_law 1909 = .ok (.iaload, 1)) := by decide +kernel
theorem dL_law_1898 : decode cL_law 1898 = .ok (.iadd, 1) := dGR_45_lawrows_1368.1
theorem dL_law_1899 : decode cL_law 1899 = .ok (.iaload, 1) := dGR_45_lawrows_1368.2.1
theorem dL_law_1900 : decode cL_law 1900 = .ok (.aload_n 0, 1) := dGR_45_lawrows_1368.2.2.1
theorem dL_law_1901 : decode cL_law 1901 = .ok (.iload_n 3, 1) := dGR_45_lawrows_1368.2.2.2.1
theorem dL_law_1902 : decode cL_law 1902 = .ok (.iconst 3, 1) := dGR_45_lawrows_1368.2.2.2.2.1
theorem dL_law_1903 : decode cL_law 1903 = .ok (.iadd, 1) := dGR_45_lawrows_1368.2.2.2.2.2.1
theorem dL_law_1904 : decode cL_law 1904 = .ok (.iaload, 1) := dGR_45_lawrows_1368.2.2.2.2.2.2.1
theorem dL_law_1905 : decode cL_law 1905 = .ok (.aload_n 0, 1) := dGR_45_lawrows_1368.2.2.2.2.2.2.2.1
theorem dL_law_1906 : decode cL_law 1906 = .ok (.iload_n 3, 1) := dGR_45_lawrows_1368.2.2.2.2.2.2.2.2.1
theorem dL_law_1907 : decode cL_law 1907 = .ok (.iconst 4, 1) := dGR_45_lawrows_1368.2.2.2.2.2.2.2.2.2.1
theorem dL_law_1908 : decode cL_law 1908 = .ok (.iadd, 1) := dGR_45_lawrows_1368.2.2.2.2.2.2.2.2.2.2.1
theorem dL_law_1909 : decode cL_law 1909 = .ok (.iaload, 1) := dGR_45_lawrows_1368.2.2.2.2.2.2.2.2.2.2.2
set_option maxRecDepth 100000 in
theorem dGR_45_lawrows_1369 : (decode cL_law 1910 = .ok (.invokevirtual 199, 3)) ∧ (decode cL_law 1913 = .ok (.pop, 1)) ∧ (decode cL_law 1914 = .ok (.aload_n 2, 1)) ∧ (decode cL_law 1915 = .ok (.aload_n 0, 1)) ∧ (decode cL_law 1916 = .ok (.iload_n 3, 1)) ∧ (decode cL_law 1917 = .ok (.iconst 1, 1)) ∧ (decode cL_law 1918 = .ok (.iadd, 1)) ∧ (decode cL_law 1919 = .ok (.iaload, 1)) ∧ (decode cL_law 1920 = .ok (.aload_n 0, 1)) ∧ (decode cL_law 1921 = .ok (.iload_n 3, 1)) ∧ (decode cL_law 1922 = .ok (.iconst 2, 1)) ∧ (decode cL_law 1923 = .ok (.iadd, 1)) := by decide +kernel
theorem dL_law_1910 : decode cL_law 1910 = .ok (.invokevirtual 199, 3) := dGR_45_lawrows_1369.1
theorem dL_law_1913 : decode cL_law 1913 = .ok (.pop, 1) := dGR_45_lawrows_1369.2.1
theorem dL_law_1914 : decode cL_law 1914 = .ok (.aload_n 2, 1) := dGR_45_lawrows_1369.2.2.1
theorem dL_law_1915 : decode cL_law 1915 = .ok (.aload_n 0, 1) := dGR_45_lawrows_1369.2.2.2.1
theorem dL_law_1916 : decode cL_law 1916 = .ok (.iload_n 3, 1) := dGR_45_lawrows_1369.2.2.2.2.1
theorem dL_law_1917 : decode cL_law 1917 = .ok (.iconst 1, 1) := dGR_45_lawrows_1369.2.2.2.2.2.1
theorem dL_law_1918 : decode cL_law 1918 = .ok (.iadd, 1) := dGR_45_lawrows_1369.2.2.2.2.2.2.1
theorem dL_law_1919 : decode cL_law 1919 = .ok (.iaload, 1) := dGR_45_lawrows_1369.2.2.2.2.2.2.2.1
theorem dL_law_1920 : decode cL_law 1920 = .ok (.aload_n 0, 1) := dGR_45_lawrows_1369.2.2.2.2.2.2.2.2.1
theorem dL_law_1921 : decode cL_law 1921 = .ok (.iload_n 3, 1) := dGR_45_lawrows_1369.2.2.2.2.2.2.2.2.2.1
theorem dL_law_1922 : decode cL_law 1922 = .ok (.iconst 2, 1) := dGR_45_lawrows_1369.2.2.2.2.2.2.2.2.2.2.1
theorem dL_law_1923 : decode cL_law 1923 = .ok (.iadd, 1) := dGR_45_lawrows_1369.2.2.2.2.2.2.2.2.2.2.2
set_option maxRecDepth 100000 in
theorem dGR_45_lawrows_1370 : (decode cL_law 1924 = .ok (.iaload, 1)) ∧ (decode cL_law 1925 = .ok (.aload_n 0, 1)) ∧ (decode cL_law 1926 = .ok (.iload_n 3, 1)) ∧ (decode cL_law 1927 = .ok (.iconst 3, 1)) ∧ (decode cL_law 1928 = .ok (.iadd, 1)) ∧ (decode cL_law 1929 = .ok (.iaload, 1)) ∧ (decode cL_law 1930 = .ok (.aload_n 0, 1)) ∧ (decode cL_law 1931 = .ok (.iload_n 3, 1)) ∧ (decode cL_law 1932 = .ok (.iconst 4, 1)) ∧ (decode cL_law 1933 = .ok (.iadd, 1)) ∧ (decode cL_law 1934 = .ok (.iaload, 1)) ∧ (decode cL_law 1935 = .ok (.invokevirtual 203, 3)) := by decide +kernel
theorem dL_law_1924 : decode cL_law 1924 = .ok (.iaload, 1) := dGR_45_lawrows_1370.1
theorem dL_law_1925 : decode cL_law 1925 = .ok (.aload_n 0, 1) := dGR_45_lawrows_1370.2.1
theorem dL_law_1926 : decode cL_law 1926 = .ok (.iload_n 3, 1) := dGR_45_lawrows_1370.2.2.1
theorem dL_law_1927 : decode cL_law 1927 = .ok (.iconst 3, 1) := dGR_45_lawrows_1370.2.2.2.1
theorem dL_law_1928 : decode cL_law 1928 = .ok (.iadd, 1) := dGR_45_lawrows_1370.2.2.2.2.1
theorem dL_law_1929 : decode cL_law 1929 = .ok (.iaload, 1) := dGR_45_lawrows_1370.2.2.2.2.2.1
theorem dL_law_1930 : decode cL_law 1930 = .ok (.aload_n 0, 1) := dGR_45_lawrows_1370.2.2.2.2.2.2.1
theorem dL_law_1931 : decode cL_law 1931 = .ok (.iload_n 3, 1) := dGR_45_lawrows_1370.2.2.2.2.2.2.2.1
theorem dL_law_1932 : decode cL_law 1932 = .ok (.iconst 4, 1) := dGR_45_lawrows_1370.2.2.2.2.2.2.2.2.1
theorem dL_law_1933 : decode cL_law 1933 = .ok (.iadd, 1) := dGR_45_lawrows_1370.2.2.2.2.2.2.2.2.2.1
theorem dL_law_1934 : decode cL_law 1934 = .ok (.iaload, 1) := dGR_45_lawrows_1370.2.2.2.2.2.2.2.2.2.2.1
theorem dL_law_1935 : decode cL_law 1935 = .ok (.invokevirtual 203, 3) := dGR_45_lawrows_1370.2.2.2.2.2.2.2.2.2.2.2
set_option maxRecDepth 100000 in
theorem dGR_45_lawrows_1371 : (decode cL_law 1938 = .ok (.pop, 1)) ∧ (decode cL_law 1939 = .ok (.goto 111, 3)) ∧ (decode cL_law 1942 = .ok (.aload_n 1, 1)) ∧ (decode cL_law 1943 = .ok (.aload_n 0, 1)) ∧ (decode cL_law 1944 = .ok (.iload_n 3, 1)) ∧ (decode cL_law 1945 = .ok (.iconst 1, 1)) ∧ (decode cL_law 1946 = .ok (.iadd, 1)) ∧ (decode cL_law 1947 = .ok (.iaload, 1)) ∧ (decode cL_law 1948 = .ok (.invokevirtual 204, 3)) ∧ (decode cL_law 1951 = .ok (.pop, 1)) ∧ (decode cL_law 1952 = .ok (.aload_n 2, 1)) ∧ (decode cL_law 1953 = .ok (.aload_n 0, 1)) := by decide +kernel
theorem dL_law_1938 : decode cL_law 1938 = .ok (.pop, 1) := dGR_45_lawrows_1371.1
theorem dL_law_1939 : decode cL_law 1939 = .ok (.goto 111, 3) := dGR_45_lawrows_1371.2.1
theorem dL_law_1942 : decode cL_law 1942 = .ok (.aload_n 1, 1) := dGR_45_lawrows_1371.2.2.1
theorem dL_law_1943 : decode cL_law 1943 = .ok (.aload_n 0, 1) := dGR_45_lawrows_1371.2.2.2.1
theorem dL_law_1944 : decode cL_law 1944 = .ok (.iload_n 3, 1) := dGR_45_lawrows_1371.2.2.2.2.1
theorem dL_law_1945 : decode cL_law 1945 = .ok (.iconst 1, 1) := dGR_45_lawrows_1371.2.2.2.2.2.1
theorem dL_law_1946 : decode cL_law 1946 = .ok (.iadd, 1) := dGR_45_lawrows_1371.2.2.2.2.2.2.1
theorem dL_law_1947 : decode cL_law 1947 = .ok (.iaload, 1) := dGR_45_lawrows_1371.2.2.2.2.2.2.2.1
theorem dL_law_1948 : decode cL_law 1948 = .ok (.invokevirtual 204, 3) := dGR_45_lawrows_1371.2.2.2.2.2.2.2.2.1
theorem dL_law_1951 : decode cL_law 1951 = .ok (.pop, 1) := dGR_45_lawrows_1371.2.2.2.2.2.2.2.2.2.1
theorem dL_law_1952 : decode cL_law 1952 = .ok (.aload_n 2, 1) := dGR_45_lawrows_1371.2.2.2.2.2.2.2.2.2.2.1
theorem dL_law_1953 : decode cL_law 1953 = .ok (.aload_n 0, 1) := dGR_45_lawrows_1371.2.2.2.2.2.2.2.2.2.2.2
set_option maxRecDepth 100000 in
theorem dGR_45_lawrows_1372 : (decode cL_law 1954 = .ok (.iload_n 3, 1)) ∧ (decode cL_law 1955 = .ok (.iconst 1, 1)) ∧ (decode cL_law 1956 = .ok (.iadd, 1)) ∧ (decode cL_law 1957 = .ok (.iaload, 1)) ∧ (decode cL_law 1958 = .ok (.invokevirtual 207, 3)) ∧ (decode cL_law 1961 = .ok (.pop, 1)) ∧ (decode cL_law 1962 = .ok (.goto 88, 3)) ∧ (decode cL_law 1965 = .ok (.aload_n 1, 1)) ∧ (decode cL_law 1966 = .ok (.aload_n 0, 1)) ∧ (decode cL_law 1967 = .ok (.iload_n 3, 1)) ∧ (decode cL_law 1968 = .ok (.iconst 1, 1)) ∧ (decode cL_law 1969 = .ok (.iadd, 1)) := by decide +kernel
theorem dL_law_1954 : decode cL_law 1954 = .ok (.iload_n 3, 1) := dGR_45_lawrows_1372.1
theorem dL_law_1955 : decode cL_law 1955 = .ok (.iconst 1, 1) := dGR_45_lawrows_1372.2.1
theorem dL_law_1956 : decode cL_law 1956 = .ok (.iadd, 1) := dGR_45_lawrows_1372.2.2.1
theorem dL_law_1957 : decode cL_law 1957 = .ok (.iaload, 1) := dGR_45_lawrows_1372.2.2.2.1
theorem dL_law_1958 : decode cL_law 1958 = .ok (.invokevirtual 207, 3) := dGR_45_lawrows_1372.2.2.2.2.1
theorem dL_law_1961 : decode cL_law 1961 = .ok (.pop, 1) := dGR_45_lawrows_1372.2.2.2.2.2.1
theorem dL_law_1962 : decode cL_law 1962 = .ok (.goto 88, 3) := dGR_45_lawrows_1372.2.2.2.2.2.2.1
theorem dL_law_1965 : decode cL_law 1965 = .ok (.aload_n 1, 1) := dGR_45_lawrows_1372.2.2.2.2.2.2.2.1
theorem dL_law_1966 : decode cL_law 1966 = .ok (.aload_n 0, 1) := dGR_45_lawrows_1372.2.2.2.2.2.2.2.2.1
theorem dL_law_1967 : decode cL_law 1967 = .ok (.iload_n 3, 1) := dGR_45_lawrows_1372.2.2.2.2.2.2.2.2.2.1
theorem dL_law_1968 : decode cL_law 1968 = .ok (.iconst 1, 1) := dGR_45_lawrows_1372.2.2.2.2.2.2.2.2.2.2.1
theorem dL_law_1969 : decode cL_law 1969 = .ok (.iadd, 1) := dGR_45_lawrows_1372.2.2.2.2.2.2.2.2.2.2.2
set_option maxRecDepth 100000 in
theorem dGR_45_lawrows_1373 : (decode cL_law 1970 = .ok (.iaload, 1)) ∧ (decode cL_law 1971 = .ok (.invokevirtual 208, 3)) ∧ (decode cL_law 1974 = .ok (.aload_n 2, 1)) ∧ (decode cL_law 1975 = .ok (.aload_n 0, 1)) ∧ (decode cL_law 1976 = .ok (.iload_n 3, 1)) ∧ (decode cL_law 1977 = .ok (.iconst 1, 1)) ∧ (decode cL_law 1978 = .ok (.iadd, 1)) ∧ (decode cL_law 1979 = .ok (.iaload, 1)) ∧ (decode cL_law 1980 = .ok (.invokevirtual 211, 3)) ∧ (decode cL_law 1983 = .ok (.if_icmp .eq 67, 3)) ∧ (decode cL_law 1988 = .ok (.aload_n 1, 1)) ∧ (decode cL_law 1989 = .ok (.aload_n 0, 1)) := by decide +kernel
theorem dL_law_1970 : decode cL_law 1970 = .ok (.iaload, 1) := dGR_45_lawrows_1373.1
theorem dL_law_1971 : decode cL_law 1971 = .ok (.invokevirtual 208, 3) := dGR_45_lawrows_1373.2.1
theorem dL_law_1974 : decode cL_law 1974 = .ok (.aload_n 2, 1) := dGR_45_lawrows_1373.2.2.1
theorem dL_law_1975 : decode cL_law 1975 = .ok (.aload_n 0, 1) := dGR_45_lawrows_1373.2.2.2.1
theorem dL_law_1976 : decode cL_law 1976 = .ok (.iload_n 3, 1) := dGR_45_lawrows_1373.2.2.2.2.1
theorem dL_law_1977 : decode cL_law 1977 = .ok (.iconst 1, 1) := dGR_45_lawrows_1373.2.2.2.2.2.1
theorem dL_law_1978 : decode cL_law 1978 = .ok (.iadd, 1) := dGR_45_lawrows_1373.2.2.2.2.2.2.1
theorem dL_law_1979 : decode cL_law 1979 = .ok (.iaload, 1) := dGR_45_lawrows_1373.2.2.2.2.2.2.2.1
theorem dL_law_1980 : decode cL_law 1980 = .ok (.invokevirtual 211, 3) := dGR_45_lawrows_1373.2.2.2.2.2.2.2.2.1
theorem dL_law_1983 : decode cL_law 1983 = .ok (.if_icmp .eq 67, 3) := dGR_45_lawrows_1373.2.2.2.2.2.2.2.2.2.1
theorem dL_law_1988 : decode cL_law 1988 = .ok (.aload_n 1, 1) := dGR_45_lawrows_1373.2.2.2.2.2.2.2.2.2.2.1
theorem dL_law_1989 : decode cL_law 1989 = .ok (.aload_n 0, 1) := dGR_45_lawrows_1373.2.2.2.2.2.2.2.2.2.2.2
set_option maxRecDepth 100000 in
theorem dGR_45_lawrows_1374 : (decode cL_law 1990 = .ok (.iload_n 3, 1)) ∧ (decode cL_law 1991 = .ok (.iconst 1, 1)) ∧ (decode cL_law 1992 = .ok (.iadd, 1)) ∧ (decode cL_law 1993 = .ok (.iaload, 1)) ∧ (decode cL_law 1994 = .ok (.invokevirtual 212, 3)) ∧ (decode cL_law 1997 = .ok (.pop, 1)) ∧ (decode cL_law 1998 = .ok (.aload_n 2, 1)) ∧ (decode cL_law 1999 = .ok (.aload_n 0, 1)) ∧ (decode cL_law 2000 = .ok (.iload_n 3, 1)) ∧ (decode cL_law 2001 = .ok (.iconst 1, 1)) ∧ (decode cL_law 2002 = .ok (.iadd, 1)) ∧ (decode cL_law 2003 = .ok (.iaload, 1)) := by decide +kernel
theorem dL_law_1990 : decode cL_law 1990 = .ok (.iload_n 3, 1) := dGR_45_lawrows_1374.1
theorem dL_law_1991 : decode cL_law 1991 = .ok (.iconst 1, 1) := dGR_45_lawrows_1374.2.1
theorem dL_law_1992 : decode cL_law 1992 = .ok (.iadd, 1) := dGR_45_lawrows_1374.2.2.1
theorem dL_law_1993 : decode cL_law 1993 = .ok (.iaload, 1) := dGR_45_lawrows_1374.2.2.2.1
theorem dL_law_1994 : decode cL_law 1994 = .ok (.invokevirtual 212, 3) := dGR_45_lawrows_1374.2.2.2.2.1
theorem dL_law_1997 : decode cL_law 1997 = .ok (.pop, 1) := dGR_45_lawrows_1374.2.2.2.2.2.1
theorem dL_law_1998 : decode cL_law 1998 = .ok (.aload_n 2, 1) := dGR_45_lawrows_1374.2.2.2.2.2.2.1
theorem dL_law_1999 : decode cL_law 1999 = .ok (.aload_n 0, 1) := dGR_45_lawrows_1374.2.2.2.2.2.2.2.1
theorem dL_law_2000 : decode cL_law 2000 = .ok (.iload_n 3, 1) := dGR_45_lawrows_1374.2.2.2.2.2.2.2.2.1
theorem dL_law_2001 : decode cL_law 2001 = .ok (.iconst 1, 1) := dGR_45_lawrows_1374.2.2.2.2.2.2.2.2.2.1
theorem dL_law_2002 : decode cL_law 2002 = .ok (.iadd, 1) := dGR_45_lawrows_1374.2.2.2.2.2.2.2.2.2.2.1
theorem dL_law_2003 : decode cL_law 2003 = .ok (.iaload, 1) := dGR_45_lawrows_1374.2.2.2.2.2.2.2.2.2.2.2
set_option maxRecDepth 100000 in
theorem dGR_45_lawrows_1375 : (decode cL_law 2004 = .ok (.invokevirtual 215, 3)) ∧ (decode cL_law 2007 = .ok (.pop, 1)) ∧ (decode cL_law 2008 = .ok (.goto 42, 3)) ∧ (decode cL_law 2011 = .ok (.aload_n 1, 1)) ∧ (decode cL_law 2012 = .ok (.invokevirtual 216, 3)) ∧ (decode cL_law 2015 = .ok (.pop, 1)) ∧ (decode cL_law 2016 = .ok (.aload_n 2, 1)) ∧ (decode cL_law 2017 = .ok (.invokevirtual 219, 3)) ∧ (decode cL_law 2020 = .ok (.pop, 1)) ∧ (decode cL_law 2021 = .ok (.goto 29, 3)) ∧ (decode cL_law 2024 = .ok (.aload_n 1, 1)) ∧ (decode cL_law 2025 = .ok (.invokevirtual 220, 3)) := by decide +kernel
theorem dL_law_2004 : decode cL_law 2004 = .ok (.invokevirtual 215, 3) := dGR_45_lawrows_1375.1
theorem dL_law_2007 : decode cL_law 2007 = .ok (.pop, 1) := dGR_45_lawrows_1375.2.1
theorem dL_law_2008 : decode cL_law 2008 = .ok (.goto 42, 3) := dGR_45_lawrows_1375.2.2.1
theorem dL_law_2011 : decode cL_law 2011 = .ok (.aload_n 1, 1) := dGR_45_lawrows_1375.2.2.2.1
theorem dL_law_2012 : decode cL_law 2012 = .ok (.invokevirtual 216, 3) := dGR_45_lawrows_1375.2.2.2.2.1
theorem dL_law_2015 : decode cL_law 2015 = .ok (.pop, 1) := dGR_45_lawrows_1375.2.2.2.2.2.1
theorem dL_law_2016 : decode cL_law 2016 = .ok (.aload_n 2, 1) := dGR_45_lawrows_1375.2.2.2.2.2.2.1
theorem dL_law_2017 : decode cL_law 2017 = .ok (.invokevirtual 219, 3) := dGR_45_lawrows_1375.2.2.2.2.2.2.2.1
theorem dL_law_2020 : decode cL_law 2020 = .ok (.pop, 1) := dGR_45_lawrows_1375.2.2.2.2.2.2.2.2.1
theorem dL_law_2021 : decode cL_law 2021 = .ok (.goto 29, 3) := dGR_45_lawrows_1375.2.2.2.2.2.2.2.2.2.1
theorem dL_law_2024 : decode cL_law 2024 = .ok (.aload_n 1, 1) := dGR_45_lawrows_1375.2.2.2.2.2.2.2.2.2.2.1
theorem dL_law_2025 : decode cL_law 2025 = .ok (.invokevirtual 220, 3) := dGR_45_lawrows_1375.2.2.2.2.2.2.2.2.2.2.2
set_option maxRecDepth 100000 in
theorem dGR_45_lawrows_1376 : (decode cL_law 2028 = .ok (.pop, 1)) ∧ (decode cL_law 2029 = .ok (.aload_n 2, 1)) ∧ (decode cL_law 2030 = .ok (.invokevirtual 223, 3)) ∧ (decode cL_law 2033 = .ok (.pop, 1)) ∧ (decode cL_law 2034 = .ok (.goto 16, 3)) ∧ (decode cL_law 2037 = .ok (.aload_n 1, 1)) ∧ (decode cL_law 2038 = .ok (.invokevirtual 224, 3)) ∧ (decode cL_law 2041 = .ok (.pop, 1)) ∧ (decode cL_law 2042 = .ok (.aload_n 2, 1)) ∧ (decode cL_law 2043 = .ok (.invokevirtual 227, 3)) ∧ (decode cL_law 2046 = .ok (.pop, 1)) ∧ (decode cL_law 2047 = .ok (.goto 3, 3)) := by decide +kernel
theorem dL_law_2028 : decode cL_law 2028 = .ok (.pop, 1) := dGR_45_lawrows_1376.1
theorem dL_law_2029 : decode cL_law 2029 = .ok (.aload_n 2, 1) := dGR_45_lawrows_1376.2.1
theorem dL_law_2030 : decode cL_law 2030 = .ok (.invokevirtual 223, 3) := dGR_45_lawrows_1376.2.2.1
theorem dL_law_2033 : decode cL_law 2033 = .ok (.pop, 1) := dGR_45_lawrows_1376.2.2.2.1
theorem dL_law_2034 : decode cL_law 2034 = .ok (.goto 16, 3) := dGR_45_lawrows_1376.2.2.2.2.1
theorem dL_law_2037 : decode cL_law 2037 = .ok (.aload_n 1, 1) := dGR_45_lawrows_1376.2.2.2.2.2.1
theorem dL_law_2038 : decode cL_law 2038 = .ok (.invokevirtual 224, 3) := dGR_45_lawrows_1376.2.2.2.2.2.2.1
theorem dL_law_2041 : decode cL_law 2041 = .ok (.pop, 1) := dGR_45_lawrows_1376.2.2.2.2.2.2.2.1
theorem dL_law_2042 : decode cL_law 2042 = .ok (.aload_n 2, 1) := dGR_45_lawrows_1376.2.2.2.2.2.2.2.2.1
theorem dL_law_2043 : decode cL_law 2043 = .ok (.invokevirtual 227, 3) := dGR_45_lawrows_1376.2.2.2.2.2.2.2.2.2.1
theorem dL_law_2046 : decode cL_law 2046 = .ok (.pop, 1) := dGR_45_lawrows_1376.2.2.2.2.2.2.2.2.2.2.1
theorem dL_law_2047 : decode cL_law 2047 = .ok (.goto 3, 3) := dGR_45_lawrows_1376.2.2.2.2.2.2.2.2.2.2.2
set_option maxRecDepth 100000 in
theorem dGR_45_lawrows_1377 : (decode cL_law 2050 = .ok (.iinc 3 6, 3)) ∧ (decode cL_law 2053 = .ok (.goto (-2035), 3)) ∧ (decode cL_law 2056 = .ok (.iconst 1, 1)) ∧ (decode cL_law 2057 = .ok (.ireturn, 1)) := by decide +kernel
theorem dL_law_2050 : decode cL_law 2050 = .ok (.iinc 3 6, 3) := dGR_45_lawrows_1377.1
theorem dL_law_2053 : decode cL_law 2053 = .ok (.goto (-2035), 3) := dGR_45_lawrows_1377.2.1
theorem dL_law_2056 : decode cL_law 2056 = .ok (.iconst 1, 1) := dGR_45_lawrows_1377.2.2.1
theorem dL_law_2057 : decode cL_law 2057 = .ok (.ireturn, 1) := dGR_45_lawrows_1377.2.2.2
