/-! rows of the walks: instructions, fields, call sites -/
theorem zd0_246 : decode (z_b 0) 246 = .ok (.aload_n 1, 1) := by decide +kernel
theorem zd0_247 : decode (z_b 0) 247 = .ok (.aload_n 0, 1) := by decide +kernel
theorem zd0_248 : decode (z_b 0) 248 = .ok (.iload_n 3, 1) := by decide +kernel
theorem zd0_249 : decode (z_b 0) 249 = .ok (.iconst 1, 1) := by decide +kernel
theorem zd0_250 : decode (z_b 0) 250 = .ok (.iadd, 1) := by decide +kernel
theorem zd0_251 : decode (z_b 0) 251 = .ok (.iaload, 1) := by decide +kernel
theorem zd0_252 : decode (z_b 0) 252 = .ok (.aload_n 0, 1) := by decide +kernel
theorem zd0_253 : decode (z_b 0) 253 = .ok (.iload_n 3, 1) := by decide +kernel
theorem zd0_254 : decode (z_b 0) 254 = .ok (.iconst 2, 1) := by decide +kernel
theorem zd0_255 : decode (z_b 0) 255 = .ok (.iadd, 1) := by decide +kernel
theorem zd0_256 : decode (z_b 0) 256 = .ok (.iaload, 1) := by decide +kernel
theorem zcV0_23 : (z_find z_cV (z_oc 0) 23).map (·.1) = some (1, 2, [(0, 34)]) := by decide +kernel
theorem zd0_257 : decode (z_b 0) 257 = .ok (.invokevirtual 23, 3) := by decide +kernel
theorem zm34 : z_ml 34 = 4 := by decide +kernel
theorem zd34_0 : decode (z_b 34) 0 = .ok (.aload_n 0, 1) := by decide +kernel
theorem zd34_1 : decode (z_b 34) 1 = .ok (.iload_n 1, 1) := by decide +kernel
theorem zcV34_85 : (z_find z_cV (z_oc 34) 85).map (·.1) = some (1, 1, [(0, 35)]) := by decide +kernel
theorem zd34_2 : decode (z_b 34) 2 = .ok (.invokevirtual 85, 3) := by decide +kernel
theorem zm35 : z_ml 35 = 2 := by decide +kernel
theorem zd35_0 : decode (z_b 35) 0 = .ok (.iload_n 1, 1) := by decide +kernel
theorem zd35_1 : decode (z_b 35) 1 = .ok (.ifCond .lt 11, 3) := by decide +kernel
theorem zd35_12 : decode (z_b 35) 12 = .ok (.aconst_null, 1) := by decide +kernel
theorem zd35_13 : decode (z_b 35) 13 = .ok (.goto 9, 3) := by decide +kernel
theorem zr35 : z_rt 35 = some (.object "DoorBench$Bench") := by decide +kernel
theorem zd35_22 : decode (z_b 35) 22 = .ok (.areturn, 1) := by decide +kernel
theorem zd34_5 : decode (z_b 34) 5 = .ok (.astore_n 3, 1) := by decide +kernel
theorem zd34_6 : decode (z_b 34) 6 = .ok (.aload_n 3, 1) := by decide +kernel
theorem zd34_7 : decode (z_b 34) 7 = .ok (.ifnonnull 5, 3) := by decide +kernel
theorem zd34_10 : decode (z_b 34) 10 = .ok (.iconst (-1), 1) := by decide +kernel
theorem zr34 : z_rt 34 = some (.int) := by decide +kernel
theorem zd34_11 : decode (z_b 34) 11 = .ok (.ireturn, 1) := by decide +kernel
theorem zd0_260 : decode (z_b 0) 260 = .ok (.aload_n 2, 1) := by decide +kernel
theorem zd0_261 : decode (z_b 0) 261 = .ok (.aload_n 0, 1) := by decide +kernel
theorem zd0_262 : decode (z_b 0) 262 = .ok (.iload_n 3, 1) := by decide +kernel
theorem zd0_263 : decode (z_b 0) 263 = .ok (.iconst 1, 1) := by decide +kernel
theorem zd0_264 : decode (z_b 0) 264 = .ok (.iadd, 1) := by decide +kernel
theorem zd0_265 : decode (z_b 0) 265 = .ok (.iaload, 1) := by decide +kernel
theorem zd0_266 : decode (z_b 0) 266 = .ok (.aload_n 0, 1) := by decide +kernel
theorem zd0_267 : decode (z_b 0) 267 = .ok (.iload_n 3, 1) := by decide +kernel
theorem zd0_268 : decode (z_b 0) 268 = .ok (.iconst 2, 1) := by decide +kernel
theorem zd0_269 : decode (z_b 0) 269 = .ok (.iadd, 1) := by decide +kernel
theorem zd0_270 : decode (z_b 0) 270 = .ok (.iaload, 1) := by decide +kernel
theorem zcV0_26 : (z_find z_cV (z_oc 0) 26).map (·.1) = some (1, 2, [(12, 208)]) := by decide +kernel
theorem zd0_271 : decode (z_b 0) 271 = .ok (.invokevirtual 26, 3) := by decide +kernel
theorem zm208 : z_ml 208 = 3 := by decide +kernel
theorem zd208_0 : decode (z_b 208) 0 = .ok (.aload_n 0, 1) := by decide +kernel
theorem zd208_1 : decode (z_b 208) 1 = .ok (.iload_n 1, 1) := by decide +kernel
theorem zcV208_209 : (z_find z_cV (z_oc 208) 209).map (·.1) = some (1, 1, [(12, 209)]) := by decide +kernel
theorem zd208_2 : decode (z_b 208) 2 = .ok (.invokevirtual 209, 3) := by decide +kernel
theorem zm209 : z_ml 209 = 2 := by decide +kernel
theorem zd209_0 : decode (z_b 209) 0 = .ok (.iload_n 1, 1) := by decide +kernel
theorem zd209_1 : decode (z_b 209) 1 = .ok (.ifCond .lt 15, 3) := by decide +kernel
theorem zd209_16 : decode (z_b 209) 16 = .ok (.iconst 0, 1) := by decide +kernel
theorem zr209 : z_rt 209 = some (.boolean) := by decide +kernel
theorem zd209_17 : decode (z_b 209) 17 = .ok (.ireturn, 1) := by decide +kernel
theorem zd208_5 : decode (z_b 208) 5 = .ok (.ifCond .ne 5, 3) := by decide +kernel
theorem zd208_8 : decode (z_b 208) 8 = .ok (.iconst (-1), 1) := by decide +kernel
theorem zr208 : z_rt 208 = some (.int) := by decide +kernel
theorem zd208_9 : decode (z_b 208) 9 = .ok (.ireturn, 1) := by decide +kernel
theorem zd0_274 : decode (z_b 0) 274 = .ok (.if_icmp .eq 1501, 3) := by decide +kernel
theorem zd0_1775 : decode (z_b 0) 1775 = .ok (.iinc 3 6, 3) := by decide +kernel
theorem zd0_1778 : decode (z_b 0) 1778 = .ok (.goto (-1760), 3) := by decide +kernel
theorem zd0_18 : decode (z_b 0) 18 = .ok (.iload_n 3, 1) := by decide +kernel
theorem zd0_19 : decode (z_b 0) 19 = .ok (.aload_n 0, 1) := by decide +kernel
theorem zd0_20 : decode (z_b 0) 20 = .ok (.arraylength, 1) := by decide +kernel
theorem zd0_21 : decode (z_b 0) 21 = .ok (.bipush 6, 2) := by decide +kernel
theorem zd0_23 : decode (z_b 0) 23 = .ok (.isub, 1) := by decide +kernel
theorem zd0_24 : decode (z_b 0) 24 = .ok (.if_icmp .gt 1757, 3) := by decide +kernel
theorem zd0_1781 : decode (z_b 0) 1781 = .ok (.iconst 1, 1) := by decide +kernel
theorem zr0 : z_rt 0 = (some .boolean) := by decide +kernel
theorem zd0_1782 : decode (z_b 0) 1782 = .ok (.ireturn, 1) := by decide +kernel
theorem zd35_4 : decode (z_b 35) 4 = .ok (.iload_n 1, 1) := by decide +kernel
theorem zd35_5 : decode (z_b 35) 5 = .ok (.aload_n 0, 1) := by decide +kernel
theorem zf35_59 : z_fF (z_oc 35) 59 = some ((3, [0]), "DoorBench") := by decide +kernel
theorem zd35_6 : decode (z_b 35) 6 = .ok (.getfield 59, 3) := by decide +kernel
theorem zd35_9 : decode (z_b 35) 9 = .ok (.if_icmp .lt 7, 3) := by decide +kernel
theorem zd209_4 : decode (z_b 209) 4 = .ok (.iload_n 1, 1) := by decide +kernel
theorem zd209_5 : decode (z_b 209) 5 = .ok (.aload_n 0, 1) := by decide +kernel
theorem zf209_110 : z_fF (z_oc 209) 110 = some ((13, [12]), "DoorBenchModel") := by decide +kernel
theorem zd209_6 : decode (z_b 209) 6 = .ok (.getfield 110, 3) := by decide +kernel
theorem zd209_9 : decode (z_b 209) 9 = .ok (.if_icmp .ge 7, 3) := by decide +kernel
