/-! rows of the walks: instructions, fields, call sites -/
theorem zd0_200 : decode (z_b 0) 200 = .ok (.aload_n 1, 1) := by decide +kernel
theorem zd0_201 : decode (z_b 0) 201 = .ok (.aload_n 0, 1) := by decide +kernel
theorem zd0_202 : decode (z_b 0) 202 = .ok (.iload_n 3, 1) := by decide +kernel
theorem zd0_203 : decode (z_b 0) 203 = .ok (.iconst 1, 1) := by decide +kernel
theorem zd0_204 : decode (z_b 0) 204 = .ok (.iadd, 1) := by decide +kernel
theorem zd0_205 : decode (z_b 0) 205 = .ok (.iaload, 1) := by decide +kernel
theorem zd0_206 : decode (z_b 0) 206 = .ok (.aload_n 0, 1) := by decide +kernel
theorem zd0_207 : decode (z_b 0) 207 = .ok (.iload_n 3, 1) := by decide +kernel
theorem zd0_208 : decode (z_b 0) 208 = .ok (.iconst 2, 1) := by decide +kernel
theorem zd0_209 : decode (z_b 0) 209 = .ok (.iadd, 1) := by decide +kernel
theorem zd0_210 : decode (z_b 0) 210 = .ok (.iaload, 1) := by decide +kernel
theorem zcV0_13 : (z_find z_cV (z_oc 0) 13).map (·.1) = some (1, 2, [(0, 3)]) := by decide +kernel
theorem zd0_211 : decode (z_b 0) 211 = .ok (.invokevirtual 13, 3) := by decide +kernel
theorem zm3 : z_ml 3 = 3 := by decide +kernel
theorem zd3_0 : decode (z_b 3) 0 = .ok (.iload_n 1, 1) := by decide +kernel
theorem zd3_1 : decode (z_b 3) 1 = .ok (.iconst 1, 1) := by decide +kernel
theorem zd3_2 : decode (z_b 3) 2 = .ok (.if_icmp .lt 8, 3) := by decide +kernel
theorem zd3_10 : decode (z_b 3) 10 = .ok (.iconst (-1), 1) := by decide +kernel
theorem zr3 : z_rt 3 = some (.int) := by decide +kernel
theorem zd3_11 : decode (z_b 3) 11 = .ok (.ireturn, 1) := by decide +kernel
theorem zd0_214 : decode (z_b 0) 214 = .ok (.aload_n 2, 1) := by decide +kernel
theorem zd0_215 : decode (z_b 0) 215 = .ok (.aload_n 0, 1) := by decide +kernel
theorem zd0_216 : decode (z_b 0) 216 = .ok (.iload_n 3, 1) := by decide +kernel
theorem zd0_217 : decode (z_b 0) 217 = .ok (.iconst 1, 1) := by decide +kernel
theorem zd0_218 : decode (z_b 0) 218 = .ok (.iadd, 1) := by decide +kernel
theorem zd0_219 : decode (z_b 0) 219 = .ok (.iaload, 1) := by decide +kernel
theorem zd0_220 : decode (z_b 0) 220 = .ok (.aload_n 0, 1) := by decide +kernel
theorem zd0_221 : decode (z_b 0) 221 = .ok (.iload_n 3, 1) := by decide +kernel
theorem zd0_222 : decode (z_b 0) 222 = .ok (.iconst 2, 1) := by decide +kernel
theorem zd0_223 : decode (z_b 0) 223 = .ok (.iadd, 1) := by decide +kernel
theorem zd0_224 : decode (z_b 0) 224 = .ok (.iaload, 1) := by decide +kernel
theorem zcV0_17 : (z_find z_cV (z_oc 0) 17).map (·.1) = some (1, 2, [(12, 188)]) := by decide +kernel
theorem zd0_225 : decode (z_b 0) 225 = .ok (.invokevirtual 17, 3) := by decide +kernel
theorem zm188 : z_ml 188 = 4 := by decide +kernel
theorem zd188_0 : decode (z_b 188) 0 = .ok (.iload_n 1, 1) := by decide +kernel
theorem zd188_1 : decode (z_b 188) 1 = .ok (.i2l, 1) := by decide +kernel
theorem zd188_2 : decode (z_b 188) 2 = .ok (.lconst 1, 1) := by decide +kernel
theorem zl188_114 : (z_find z_l2 (z_oc 188) 114).map (·.1) = some 4 := by decide +kernel
theorem zd188_3 : decode (z_b 188) 3 = .ok (.ldc2_w 114, 3) := by decide +kernel
theorem zcS188_116 : (z_find z_cS (z_oc 188) 116).map (·.1) = some (0, 3, [(0, 189)]) := by decide +kernel
theorem zd188_6 : decode (z_b 188) 6 = .ok (.invokestatic 116, 3) := by decide +kernel
theorem zm189 : z_ml 189 = 6 := by decide +kernel
theorem zd189_0 : decode (z_b 189) 0 = .ok (.lload_n 0, 1) := by decide +kernel
theorem zd189_1 : decode (z_b 189) 1 = .ok (.lload_n 2, 1) := by decide +kernel
theorem zd189_2 : decode (z_b 189) 2 = .ok (.lcmp, 1) := by decide +kernel
theorem zd189_3 : decode (z_b 189) 3 = .ok (.ifCond .lt 14, 3) := by decide +kernel
theorem zd189_17 : decode (z_b 189) 17 = .ok (.iconst 0, 1) := by decide +kernel
theorem zr189 : z_rt 189 = some (.boolean) := by decide +kernel
theorem zd189_18 : decode (z_b 189) 18 = .ok (.ireturn, 1) := by decide +kernel
theorem zd188_9 : decode (z_b 188) 9 = .ok (.ifCond .ne 5, 3) := by decide +kernel
theorem zd188_12 : decode (z_b 188) 12 = .ok (.iconst (-1), 1) := by decide +kernel
theorem zr188 : z_rt 188 = some (.int) := by decide +kernel
theorem zd188_13 : decode (z_b 188) 13 = .ok (.ireturn, 1) := by decide +kernel
theorem zd0_228 : decode (z_b 0) 228 = .ok (.if_icmp .eq 1547, 3) := by decide +kernel
theorem zd0_1775 : decode (z_b 0) 1775 = .ok (.iinc 3 6, 3) := by decide +kernel
theorem zd0_1778 : decode (z_b 0) 1778 = .ok (.goto (-1760), 3) := by decide +kernel
theorem zd0_18 : decode (z_b 0) 18 = .ok (.iload_n 3, 1) := by decide +kernel
theorem zd0_19 : decode (z_b 0) 19 = .ok (.aload_n 0, 1) := by decide +kernel
theorem zd0_20 : decode (z_b 0) 20 = .ok (.arraylength, 1) := by decide +kernel
theorem zd0_21 : decode (z_b 0) 21 = .ok (.bipush 6, 2) := by decide +kernel
theorem zd0_23 : decode (z_b 0) 23 = .ok (.isub, 1) := by decide +kernel
theorem zd0_24 : decode (z_b 0) 24 = .ok (.if_icmp .gt 1757, 3) := by decide +kernel
theorem zd0_1781 : decode (z_b 0) 1781 = .ok (.iconst 1, 1) := by decide +kernel
theorem zr0 : z_rt 0 = (some .boolean) := by decide +kernel
theorem zd0_1782 : decode (z_b 0) 1782 = .ok (.ireturn, 1) := by decide +kernel
theorem zd3_5 : decode (z_b 3) 5 = .ok (.iload_n 1, 1) := by decide +kernel
theorem zd3_6 : decode (z_b 3) 6 = .ok (.iconst 4, 1) := by decide +kernel
theorem zd3_7 : decode (z_b 3) 7 = .ok (.if_icmp .le 5, 3) := by decide +kernel
theorem zd189_6 : decode (z_b 189) 6 = .ok (.lload_n 0, 1) := by decide +kernel
theorem zd189_7 : decode (z_b 189) 7 = .ok (.lload 4, 2) := by decide +kernel
theorem zd189_9 : decode (z_b 189) 9 = .ok (.lcmp, 1) := by decide +kernel
theorem zd189_10 : decode (z_b 189) 10 = .ok (.ifCond .gt 7, 3) := by decide +kernel
theorem zd3_12 : decode (z_b 3) 12 = .ok (.aload_n 0, 1) := by decide +kernel
theorem zf3_10 : z_fF (z_oc 3) 10 = some ((0, [0]), "DoorBench") := by decide +kernel
theorem zd3_13 : decode (z_b 3) 13 = .ok (.getfield 10, 3) := by decide +kernel
theorem zd3_16 : decode (z_b 3) 16 = .ok (.iload_n 1, 1) := by decide +kernel
theorem zd3_17 : decode (z_b 3) 17 = .ok (.iload_n 2, 1) := by decide +kernel
theorem zcV3_51 : (z_find z_cV (z_oc 3) 51).map (·.1) = some (1, 2, [(1, 4)]) := by decide +kernel
theorem zd3_18 : decode (z_b 3) 18 = .ok (.invokevirtual 51, 3) := by decide +kernel
theorem zm4 : z_ml 4 = 4 := by decide +kernel
theorem zd4_0 : decode (z_b 4) 0 = .ok (.aload_n 0, 1) := by decide +kernel
theorem zf4_25 : z_fF (z_oc 4) 25 = some ((1, [1]), "DoorBench$Tape") := by decide +kernel
theorem zd4_1 : decode (z_b 4) 1 = .ok (.getfield 25, 3) := by decide +kernel
theorem zd4_4 : decode (z_b 4) 4 = .ok (.iload_n 1, 1) := by decide +kernel
theorem zd4_5 : decode (z_b 4) 5 = .ok (.iadd, 1) := by decide +kernel
theorem zd4_6 : decode (z_b 4) 6 = .ok (.sipush 160, 3) := by decide +kernel
theorem zd4_9 : decode (z_b 4) 9 = .ok (.if_icmp .le 5, 3) := by decide +kernel
theorem zd4_14 : decode (z_b 4) 14 = .ok (.iconst 0, 1) := by decide +kernel
theorem zd4_15 : decode (z_b 4) 15 = .ok (.istore_n 3, 1) := by decide +kernel
theorem zd4_16 : decode (z_b 4) 16 = .ok (.iload_n 3, 1) := by decide +kernel
theorem zd4_17 : decode (z_b 4) 17 = .ok (.iload_n 1, 1) := by decide +kernel
theorem zd4_18 : decode (z_b 4) 18 = .ok (.if_icmp .ge 38, 3) := by decide +kernel
theorem zd4_21 : decode (z_b 4) 21 = .ok (.aload_n 0, 1) := by decide +kernel
theorem zf4_9 : z_fF (z_oc 4) 9 = some ((0, [1]), "DoorBench$Tape") := by decide +kernel
theorem zd4_22 : decode (z_b 4) 22 = .ok (.getfield 9, 3) := by decide +kernel
theorem zd4_25 : decode (z_b 4) 25 = .ok (.aload_n 0, 1) := by decide +kernel
theorem zd4_26 : decode (z_b 4) 26 = .ok (.getfield 25, 3) := by decide +kernel
theorem zd4_29 : decode (z_b 4) 29 = .ok (.iload_n 2, 1) := by decide +kernel
theorem zd4_30 : decode (z_b 4) 30 = .ok (.bipush 8, 2) := by decide +kernel
theorem zd4_32 : decode (z_b 4) 32 = .ok (.iload_n 3, 1) := by decide +kernel
theorem zd4_33 : decode (z_b 4) 33 = .ok (.imul, 1) := by decide +kernel
theorem zd4_34 : decode (z_b 4) 34 = .ok (.iushr, 1) := by decide +kernel
theorem zd4_35 : decode (z_b 4) 35 = .ok (.sipush 255, 3) := by decide +kernel
theorem zd4_38 : decode (z_b 4) 38 = .ok (.iand, 1) := by decide +kernel
theorem zd4_39 : decode (z_b 4) 39 = .ok (.iastore, 1) := by decide +kernel
theorem zd4_40 : decode (z_b 4) 40 = .ok (.aload_n 0, 1) := by decide +kernel
theorem zd4_41 : decode (z_b 4) 41 = .ok (.dup, 1) := by decide +kernel
theorem zd4_42 : decode (z_b 4) 42 = .ok (.getfield 25, 3) := by decide +kernel
theorem zd4_45 : decode (z_b 4) 45 = .ok (.iconst 1, 1) := by decide +kernel
theorem zd4_46 : decode (z_b 4) 46 = .ok (.iadd, 1) := by decide +kernel
theorem zd4_47 : decode (z_b 4) 47 = .ok (.putfield 25, 3) := by decide +kernel
theorem zd4_50 : decode (z_b 4) 50 = .ok (.iinc 3 1, 3) := by decide +kernel
theorem zd4_53 : decode (z_b 4) 53 = .ok (.goto (-37), 3) := by decide +kernel
theorem zd4_56 : decode (z_b 4) 56 = .ok (.iconst 1, 1) := by decide +kernel
theorem zr4 : z_rt 4 = some (.boolean) := by decide +kernel
theorem zd4_57 : decode (z_b 4) 57 = .ok (.ireturn, 1) := by decide +kernel
theorem zd3_21 : decode (z_b 3) 21 = .ok (.ifCond .eq 13, 3) := by decide +kernel
theorem zd3_24 : decode (z_b 3) 24 = .ok (.aload_n 0, 1) := by decide +kernel
theorem zd3_25 : decode (z_b 3) 25 = .ok (.getfield 10, 3) := by decide +kernel
theorem zf3_55 : z_fF (z_oc 3) 55 = some ((1, [1]), "DoorBench$Tape") := by decide +kernel
theorem zd3_28 : decode (z_b 3) 28 = .ok (.getfield 55, 3) := by decide +kernel
theorem zd3_31 : decode (z_b 3) 31 = .ok (.goto 5, 3) := by decide +kernel
theorem zd3_36 : decode (z_b 3) 36 = .ok (.ireturn, 1) := by decide +kernel
theorem zd189_13 : decode (z_b 189) 13 = .ok (.iconst 1, 1) := by decide +kernel
theorem zd189_14 : decode (z_b 189) 14 = .ok (.goto 4, 3) := by decide +kernel
theorem zd188_14 : decode (z_b 188) 14 = .ok (.aload_n 0, 1) := by decide +kernel
theorem zf188_120 : z_fF (z_oc 188) 120 = some ((1, [12]), "DoorBenchModel") := by decide +kernel
theorem zd188_15 : decode (z_b 188) 15 = .ok (.getfield 120, 3) := by decide +kernel
theorem zd188_18 : decode (z_b 188) 18 = .ok (.iload_n 1, 1) := by decide +kernel
theorem zd188_19 : decode (z_b 188) 19 = .ok (.iadd, 1) := by decide +kernel
theorem zd188_20 : decode (z_b 188) 20 = .ok (.sipush 160, 3) := by decide +kernel
theorem zd188_23 : decode (z_b 188) 23 = .ok (.if_icmp .le 6, 3) := by decide +kernel
theorem zd188_29 : decode (z_b 188) 29 = .ok (.iconst 0, 1) := by decide +kernel
theorem zd188_30 : decode (z_b 188) 30 = .ok (.istore_n 3, 1) := by decide +kernel
theorem zd188_31 : decode (z_b 188) 31 = .ok (.iload_n 3, 1) := by decide +kernel
theorem zd188_32 : decode (z_b 188) 32 = .ok (.iload_n 1, 1) := by decide +kernel
theorem zd188_33 : decode (z_b 188) 33 = .ok (.if_icmp .ge 38, 3) := by decide +kernel
theorem zd188_36 : decode (z_b 188) 36 = .ok (.aload_n 0, 1) := by decide +kernel
theorem zf188_9 : z_fF (z_oc 188) 9 = some ((0, [12]), "DoorBenchModel") := by decide +kernel
theorem zd188_37 : decode (z_b 188) 37 = .ok (.getfield 9, 3) := by decide +kernel
theorem zd188_40 : decode (z_b 188) 40 = .ok (.aload_n 0, 1) := by decide +kernel
theorem zd188_41 : decode (z_b 188) 41 = .ok (.getfield 120, 3) := by decide +kernel
theorem zd188_44 : decode (z_b 188) 44 = .ok (.iload_n 2, 1) := by decide +kernel
theorem zd188_45 : decode (z_b 188) 45 = .ok (.bipush 8, 2) := by decide +kernel
theorem zd188_47 : decode (z_b 188) 47 = .ok (.iload_n 3, 1) := by decide +kernel
theorem zd188_48 : decode (z_b 188) 48 = .ok (.imul, 1) := by decide +kernel
theorem zd188_49 : decode (z_b 188) 49 = .ok (.ishr, 1) := by decide +kernel
theorem zd188_50 : decode (z_b 188) 50 = .ok (.sipush 255, 3) := by decide +kernel
theorem zd188_53 : decode (z_b 188) 53 = .ok (.iand, 1) := by decide +kernel
theorem zd188_54 : decode (z_b 188) 54 = .ok (.iastore, 1) := by decide +kernel
theorem zd188_55 : decode (z_b 188) 55 = .ok (.aload_n 0, 1) := by decide +kernel
theorem zd188_56 : decode (z_b 188) 56 = .ok (.dup, 1) := by decide +kernel
theorem zd188_57 : decode (z_b 188) 57 = .ok (.getfield 120, 3) := by decide +kernel
theorem zd188_60 : decode (z_b 188) 60 = .ok (.iconst 1, 1) := by decide +kernel
theorem zd188_61 : decode (z_b 188) 61 = .ok (.iadd, 1) := by decide +kernel
theorem zd188_62 : decode (z_b 188) 62 = .ok (.putfield 120, 3) := by decide +kernel
theorem zd188_65 : decode (z_b 188) 65 = .ok (.iinc 3 1, 3) := by decide +kernel
theorem zd188_68 : decode (z_b 188) 68 = .ok (.goto (-37), 3) := by decide +kernel
theorem zd188_71 : decode (z_b 188) 71 = .ok (.aload_n 0, 1) := by decide +kernel
theorem zd188_72 : decode (z_b 188) 72 = .ok (.getfield 120, 3) := by decide +kernel
theorem zd188_75 : decode (z_b 188) 75 = .ok (.ireturn, 1) := by decide +kernel
theorem zd0_233 : decode (z_b 0) 233 = .ok (.aload_n 1, 1) := by decide +kernel
theorem zcV0_18 : (z_find z_cV (z_oc 0) 18).map (·.1) = some (1, 0, [(0, 5)]) := by decide +kernel
theorem zd0_234 : decode (z_b 0) 234 = .ok (.invokevirtual 18, 3) := by decide +kernel
theorem zm5 : z_ml 5 = 3 := by decide +kernel
theorem zd5_0 : decode (z_b 5) 0 = .ok (.aload_n 0, 1) := by decide +kernel
theorem zf5_59 : z_fF (z_oc 5) 59 = some ((3, [0]), "DoorBench") := by decide +kernel
theorem zd5_1 : decode (z_b 5) 1 = .ok (.getfield 59, 3) := by decide +kernel
theorem zd5_4 : decode (z_b 5) 4 = .ok (.bipush 8, 2) := by decide +kernel
theorem zd5_6 : decode (z_b 5) 6 = .ok (.if_icmp .lt 6, 3) := by decide +kernel
theorem zd5_12 : decode (z_b 5) 12 = .ok (.aload_n 0, 1) := by decide +kernel
theorem zf5_10 : z_fF (z_oc 5) 10 = some ((0, [0]), "DoorBench") := by decide +kernel
theorem zd5_13 : decode (z_b 5) 13 = .ok (.getfield 10, 3) := by decide +kernel
theorem zcV5_62 : (z_find z_cV (z_oc 5) 62).map (·.1) = some (1, 0, [(1, 6)]) := by decide +kernel
theorem zd5_16 : decode (z_b 5) 16 = .ok (.invokevirtual 62, 3) := by decide +kernel
theorem zm6 : z_ml 6 = 2 := by decide +kernel
theorem zd6_0 : decode (z_b 6) 0 = .ok (.aload_n 0, 1) := by decide +kernel
theorem zd6_1 : decode (z_b 6) 1 = .ok (.iconst 0, 1) := by decide +kernel
theorem zf6_29 : z_fF (z_oc 6) 29 = some ((2, [1]), "DoorBench$Tape") := by decide +kernel
theorem zd6_2 : decode (z_b 6) 2 = .ok (.putfield 29, 3) := by decide +kernel
theorem zd6_5 : decode (z_b 6) 5 = .ok (.aload_n 0, 1) := by decide +kernel
theorem zd6_6 : decode (z_b 6) 6 = .ok (.iconst (-1), 1) := by decide +kernel
theorem zf6_32 : z_fF (z_oc 6) 32 = some ((3, [1]), "DoorBench$Tape") := by decide +kernel
theorem zd6_7 : decode (z_b 6) 7 = .ok (.putfield 32, 3) := by decide +kernel
theorem zd6_10 : decode (z_b 6) 10 = .ok (.aload_n 0, 1) := by decide +kernel
theorem zd6_11 : decode (z_b 6) 11 = .ok (.aload_n 0, 1) := by decide +kernel
theorem zd6_12 : decode (z_b 6) 12 = .ok (.aload_n 0, 1) := by decide +kernel
theorem zd6_13 : decode (z_b 6) 13 = .ok (.aload_n 0, 1) := by decide +kernel
theorem zd6_14 : decode (z_b 6) 14 = .ok (.aload_n 0, 1) := by decide +kernel
theorem zd6_15 : decode (z_b 6) 15 = .ok (.iconst 0, 1) := by decide +kernel
theorem zd6_16 : decode (z_b 6) 16 = .ok (.dup_x1, 1) := by decide +kernel
theorem zf6_35 : z_fF (z_oc 6) 35 = some ((10, [1]), "DoorBench$Tape") := by decide +kernel
theorem zd6_17 : decode (z_b 6) 17 = .ok (.putfield 35, 3) := by decide +kernel
theorem zd6_20 : decode (z_b 6) 20 = .ok (.dup_x1, 1) := by decide +kernel
theorem zf6_38 : z_fF (z_oc 6) 38 = some ((7, [1]), "DoorBench$Tape") := by decide +kernel
theorem zd6_21 : decode (z_b 6) 21 = .ok (.putfield 38, 3) := by decide +kernel
theorem zd6_24 : decode (z_b 6) 24 = .ok (.dup_x1, 1) := by decide +kernel
theorem zf6_41 : z_fF (z_oc 6) 41 = some ((6, [1]), "DoorBench$Tape") := by decide +kernel
theorem zd6_25 : decode (z_b 6) 25 = .ok (.putfield 41, 3) := by decide +kernel
theorem zd6_28 : decode (z_b 6) 28 = .ok (.dup_x1, 1) := by decide +kernel
theorem zf6_44 : z_fF (z_oc 6) 44 = some ((5, [1]), "DoorBench$Tape") := by decide +kernel
theorem zd6_29 : decode (z_b 6) 29 = .ok (.putfield 44, 3) := by decide +kernel
theorem zf6_47 : z_fF (z_oc 6) 47 = some ((4, [1]), "DoorBench$Tape") := by decide +kernel
theorem zd6_32 : decode (z_b 6) 32 = .ok (.putfield 47, 3) := by decide +kernel
theorem zd6_35 : decode (z_b 6) 35 = .ok (.aload_n 0, 1) := by decide +kernel
theorem zf6_15 : z_fF (z_oc 6) 15 = some ((8, [1]), "DoorBench$Tape") := by decide +kernel
theorem zd6_36 : decode (z_b 6) 36 = .ok (.getfield 15, 3) := by decide +kernel
theorem zd6_39 : decode (z_b 6) 39 = .ok (.iconst (-1), 1) := by decide +kernel
theorem zcS6_50 : (z_find z_cS (z_oc 6) 50).map (·.1) = some (0, 2, [(0, 7)]) := by decide +kernel
theorem zd6_40 : decode (z_b 6) 40 = .ok (.invokestatic 50, 3) := by decide +kernel
theorem zm7 : z_ml 7 = 4 := by decide +kernel
theorem zd7_0 : decode (z_b 7) 0 = .ok (.iconst 0, 1) := by decide +kernel
theorem zd7_1 : decode (z_b 7) 1 = .ok (.istore_n 2, 1) := by decide +kernel
theorem zd7_2 : decode (z_b 7) 2 = .ok (.aload_n 0, 1) := by decide +kernel
theorem zd7_3 : decode (z_b 7) 3 = .ok (.arraylength, 1) := by decide +kernel
theorem zd7_4 : decode (z_b 7) 4 = .ok (.istore_n 3, 1) := by decide +kernel
theorem zd7_5 : decode (z_b 7) 5 = .ok (.iload_n 2, 1) := by decide +kernel
theorem zd7_6 : decode (z_b 7) 6 = .ok (.iload_n 3, 1) := by decide +kernel
theorem zd7_7 : decode (z_b 7) 7 = .ok (.if_icmp .ge 13, 3) := by decide +kernel
theorem zd7_10 : decode (z_b 7) 10 = .ok (.aload_n 0, 1) := by decide +kernel
theorem zd7_11 : decode (z_b 7) 11 = .ok (.iload_n 2, 1) := by decide +kernel
theorem zd7_12 : decode (z_b 7) 12 = .ok (.iload_n 1, 1) := by decide +kernel
theorem zd7_13 : decode (z_b 7) 13 = .ok (.iastore, 1) := by decide +kernel
theorem zd7_14 : decode (z_b 7) 14 = .ok (.iinc 2 1, 3) := by decide +kernel
theorem zd7_17 : decode (z_b 7) 17 = .ok (.goto (-12), 3) := by decide +kernel
theorem zr7 : z_rt 7 = none := by decide +kernel
theorem zd7_20 : decode (z_b 7) 20 = .ok (.return_, 1) := by decide +kernel
theorem zd6_43 : decode (z_b 6) 43 = .ok (.aload_n 0, 1) := by decide +kernel
theorem zd6_44 : decode (z_b 6) 44 = .ok (.bipush 113, 2) := by decide +kernel
theorem zcV6_56 : (z_find z_cV (z_oc 6) 56).map (·.1) = some (1, 1, [(1, 8)]) := by decide +kernel
theorem zd6_46 : decode (z_b 6) 46 = .ok (.invokevirtual 56, 3) := by decide +kernel
theorem zm8 : z_ml 8 = 2 := by decide +kernel
theorem zd8_0 : decode (z_b 8) 0 = .ok (.aload_n 0, 1) := by decide +kernel
theorem zf8_32 : z_fF (z_oc 8) 32 = some ((3, [1]), "DoorBench$Tape") := by decide +kernel
theorem zd8_1 : decode (z_b 8) 1 = .ok (.getfield 32, 3) := by decide +kernel
theorem zd8_4 : decode (z_b 8) 4 = .ok (.ifCond .lt 4, 3) := by decide +kernel
theorem zd8_8 : decode (z_b 8) 8 = .ok (.aload_n 0, 1) := by decide +kernel
theorem zf8_29 : z_fF (z_oc 8) 29 = some ((2, [1]), "DoorBench$Tape") := by decide +kernel
theorem zd8_9 : decode (z_b 8) 9 = .ok (.getfield 29, 3) := by decide +kernel
theorem zd8_12 : decode (z_b 8) 12 = .ok (.aload_n 0, 1) := by decide +kernel
theorem zf8_25 : z_fF (z_oc 8) 25 = some ((1, [1]), "DoorBench$Tape") := by decide +kernel
theorem zd8_13 : decode (z_b 8) 13 = .ok (.getfield 25, 3) := by decide +kernel
theorem zd8_16 : decode (z_b 8) 16 = .ok (.if_icmp .ge 29, 3) := by decide +kernel
theorem zd8_45 : decode (z_b 8) 45 = .ok (.aload_n 0, 1) := by decide +kernel
theorem zd8_46 : decode (z_b 8) 46 = .ok (.aload_n 0, 1) := by decide +kernel
theorem zd8_47 : decode (z_b 8) 47 = .ok (.getfield 29, 3) := by decide +kernel
theorem zd8_50 : decode (z_b 8) 50 = .ok (.putfield 32, 3) := by decide +kernel
theorem zr8 : z_rt 8 = none := by decide +kernel
theorem zd8_53 : decode (z_b 8) 53 = .ok (.return_, 1) := by decide +kernel
theorem zd6_49 : decode (z_b 6) 49 = .ok (.aload_n 0, 1) := by decide +kernel
theorem zd6_50 : decode (z_b 6) 50 = .ok (.bipush 32, 2) := by decide +kernel
theorem zd6_52 : decode (z_b 6) 52 = .ok (.invokevirtual 56, 3) := by decide +kernel
theorem zd8_7 : decode (z_b 8) 7 = .ok (.return_, 1) := by decide +kernel
theorem zd6_55 : decode (z_b 6) 55 = .ok (.aload_n 0, 1) := by decide +kernel
theorem zcV6_60 : (z_find z_cV (z_oc 6) 60).map (·.1) = some (1, 0, [(1, 9)]) := by decide +kernel
theorem zd6_56 : decode (z_b 6) 56 = .ok (.invokevirtual 60, 3) := by decide +kernel
theorem zm9 : z_ml 9 = 3 := by decide +kernel
theorem zd9_0 : decode (z_b 9) 0 = .ok (.iconst 0, 1) := by decide +kernel
theorem zd9_1 : decode (z_b 9) 1 = .ok (.istore_n 1, 1) := by decide +kernel
theorem zd9_2 : decode (z_b 9) 2 = .ok (.iload_n 1, 1) := by decide +kernel
theorem zd9_3 : decode (z_b 9) 3 = .ok (.bipush 10, 2) := by decide +kernel
theorem zd9_5 : decode (z_b 9) 5 = .ok (.if_icmp .ge 92, 3) := by decide +kernel
theorem zd9_8 : decode (z_b 9) 8 = .ok (.aload_n 0, 1) := by decide +kernel
theorem zf9_32 : z_fF (z_oc 9) 32 = some ((3, [1]), "DoorBench$Tape") := by decide +kernel
theorem zd9_9 : decode (z_b 9) 9 = .ok (.getfield 32, 3) := by decide +kernel
theorem zd9_12 : decode (z_b 9) 12 = .ok (.ifCond .ge 85, 3) := by decide +kernel
theorem zd9_97 : decode (z_b 9) 97 = .ok (.aload_n 0, 1) := by decide +kernel
theorem zf9_47 : z_fF (z_oc 9) 47 = some ((4, [1]), "DoorBench$Tape") := by decide +kernel
theorem zd9_98 : decode (z_b 9) 98 = .ok (.getfield 47, 3) := by decide +kernel
theorem zd9_101 : decode (z_b 9) 101 = .ok (.ifCond .ne 7, 3) := by decide +kernel
theorem zd9_104 : decode (z_b 9) 104 = .ok (.aload_n 0, 1) := by decide +kernel
theorem zcV9_66 : (z_find z_cV (z_oc 9) 66).map (·.1) = some (1, 0, [(1, 10)]) := by decide +kernel
theorem zd9_105 : decode (z_b 9) 105 = .ok (.invokevirtual 66, 3) := by decide +kernel
theorem zm10 : z_ml 10 = 1 := by decide +kernel
theorem zd10_0 : decode (z_b 10) 0 = .ok (.aload_n 0, 1) := by decide +kernel
theorem zf10_32 : z_fF (z_oc 10) 32 = some ((3, [1]), "DoorBench$Tape") := by decide +kernel
theorem zd10_1 : decode (z_b 10) 1 = .ok (.getfield 32, 3) := by decide +kernel
theorem zd10_4 : decode (z_b 10) 4 = .ok (.ifCond .ge 11, 3) := by decide +kernel
theorem zr10 : z_rt 10 = none := by decide +kernel
theorem zd10_15 : decode (z_b 10) 15 = .ok (.return_, 1) := by decide +kernel
theorem zr9 : z_rt 9 = none := by decide +kernel
theorem zd9_108 : decode (z_b 9) 108 = .ok (.return_, 1) := by decide +kernel
theorem zd6_59 : decode (z_b 6) 59 = .ok (.iconst 0, 1) := by decide +kernel
theorem zd6_60 : decode (z_b 6) 60 = .ok (.istore_n 1, 1) := by decide +kernel
theorem zd6_61 : decode (z_b 6) 61 = .ok (.iload_n 1, 1) := by decide +kernel
theorem zd6_62 : decode (z_b 6) 62 = .ok (.sipush 160, 3) := by decide +kernel
theorem zd6_65 : decode (z_b 6) 65 = .ok (.if_icmp .ge 31, 3) := by decide +kernel
theorem zd6_68 : decode (z_b 6) 68 = .ok (.aload_n 0, 1) := by decide +kernel
theorem zd6_69 : decode (z_b 6) 69 = .ok (.getfield 32, 3) := by decide +kernel
theorem zd6_72 : decode (z_b 6) 72 = .ok (.ifCond .ge 24, 3) := by decide +kernel
theorem zd6_96 : decode (z_b 6) 96 = .ok (.aload_n 0, 1) := by decide +kernel
theorem zd6_97 : decode (z_b 6) 97 = .ok (.getfield 32, 3) := by decide +kernel
theorem zr6 : z_rt 6 = some (.int) := by decide +kernel
theorem zd6_100 : decode (z_b 6) 100 = .ok (.ireturn, 1) := by decide +kernel
theorem zd5_19 : decode (z_b 5) 19 = .ok (.istore_n 1, 1) := by decide +kernel
theorem zd5_20 : decode (z_b 5) 20 = .ok (.iload_n 1, 1) := by decide +kernel
theorem zd5_21 : decode (z_b 5) 21 = .ok (.ifCond .lt 10, 3) := by decide +kernel
theorem zd5_24 : decode (z_b 5) 24 = .ok (.bipush (-100), 2) := by decide +kernel
theorem zd5_26 : decode (z_b 5) 26 = .ok (.iload_n 1, 1) := by decide +kernel
theorem zd5_27 : decode (z_b 5) 27 = .ok (.isub, 1) := by decide +kernel
theorem zd5_28 : decode (z_b 5) 28 = .ok (.goto 14, 3) := by decide +kernel
theorem zd5_42 : decode (z_b 5) 42 = .ok (.istore_n 2, 1) := by decide +kernel
theorem zd5_43 : decode (z_b 5) 43 = .ok (.aload_n 0, 1) := by decide +kernel
theorem zd5_44 : decode (z_b 5) 44 = .ok (.getfield 10, 3) := by decide +kernel
theorem zd5_47 : decode (z_b 5) 47 = .ok (.iconst 0, 1) := by decide +kernel
theorem zf5_55 : z_fF (z_oc 5) 55 = some ((1, [1]), "DoorBench$Tape") := by decide +kernel
theorem zd5_48 : decode (z_b 5) 48 = .ok (.putfield 55, 3) := by decide +kernel
theorem zd5_51 : decode (z_b 5) 51 = .ok (.iload_n 2, 1) := by decide +kernel
theorem zr5 : z_rt 5 = some (.int) := by decide +kernel
theorem zd5_52 : decode (z_b 5) 52 = .ok (.ireturn, 1) := by decide +kernel
theorem zd0_237 : decode (z_b 0) 237 = .ok (.aload_n 2, 1) := by decide +kernel
theorem zcV0_22 : (z_find z_cV (z_oc 0) 22).map (·.1) = some (1, 0, [(12, 190)]) := by decide +kernel
theorem zd0_238 : decode (z_b 0) 238 = .ok (.invokevirtual 22, 3) := by decide +kernel
theorem zm190 : z_ml 190 = 6 := by decide +kernel
theorem zd190_0 : decode (z_b 190) 0 = .ok (.aload_n 0, 1) := by decide +kernel
theorem zf190_110 : z_fF (z_oc 190) 110 = some ((13, [12]), "DoorBenchModel") := by decide +kernel
theorem zd190_1 : decode (z_b 190) 1 = .ok (.getfield 110, 3) := by decide +kernel
theorem zd190_4 : decode (z_b 190) 4 = .ok (.bipush 8, 2) := by decide +kernel
theorem zd190_6 : decode (z_b 190) 6 = .ok (.if_icmp .ne 6, 3) := by decide +kernel
theorem zd190_12 : decode (z_b 190) 12 = .ok (.aload_n 0, 1) := by decide +kernel
theorem zd190_13 : decode (z_b 190) 13 = .ok (.getfield 110, 3) := by decide +kernel
theorem zd190_16 : decode (z_b 190) 16 = .ok (.istore_n 1, 1) := by decide +kernel
theorem zd190_17 : decode (z_b 190) 17 = .ok (.aload_n 0, 1) := by decide +kernel
theorem zd190_18 : decode (z_b 190) 18 = .ok (.iload_n 1, 1) := by decide +kernel
theorem zf190_133 : z_fF (z_oc 190) 133 = some ((22, [12]), "DoorBenchModel") := by decide +kernel
theorem zd190_19 : decode (z_b 190) 19 = .ok (.putfield 133, 3) := by decide +kernel
theorem zd190_22 : decode (z_b 190) 22 = .ok (.aload_n 0, 1) := by decide +kernel
theorem zd190_23 : decode (z_b 190) 23 = .ok (.iconst 1, 1) := by decide +kernel
theorem zf190_129 : z_fF (z_oc 190) 129 = some ((23, [12]), "DoorBenchModel") := by decide +kernel
theorem zd190_24 : decode (z_b 190) 24 = .ok (.putfield 129, 3) := by decide +kernel
theorem zd190_27 : decode (z_b 190) 27 = .ok (.aload_n 0, 1) := by decide +kernel
theorem zd190_28 : decode (z_b 190) 28 = .ok (.iconst 0, 1) := by decide +kernel
theorem zf190_123 : z_fF (z_oc 190) 123 = some ((24, [12]), "DoorBenchModel") := by decide +kernel
theorem zd190_29 : decode (z_b 190) 29 = .ok (.putfield 123, 3) := by decide +kernel
theorem zd190_32 : decode (z_b 190) 32 = .ok (.aload_n 0, 1) := by decide +kernel
theorem zd190_33 : decode (z_b 190) 33 = .ok (.aload_n 0, 1) := by decide +kernel
theorem zf190_120 : z_fF (z_oc 190) 120 = some ((1, [12]), "DoorBenchModel") := by decide +kernel
theorem zd190_34 : decode (z_b 190) 34 = .ok (.getfield 120, 3) := by decide +kernel
theorem zf190_126 : z_fF (z_oc 190) 126 = some ((25, [12]), "DoorBenchModel") := by decide +kernel
theorem zd190_37 : decode (z_b 190) 37 = .ok (.putfield 126, 3) := by decide +kernel
theorem zd190_40 : decode (z_b 190) 40 = .ok (.aload_n 0, 1) := by decide +kernel
theorem zd190_41 : decode (z_b 190) 41 = .ok (.iconst (-1), 1) := by decide +kernel
theorem zf190_136 : z_fF (z_oc 190) 136 = some ((26, [12]), "DoorBenchModel") := by decide +kernel
theorem zd190_42 : decode (z_b 190) 42 = .ok (.putfield 136, 3) := by decide +kernel
theorem zd190_45 : decode (z_b 190) 45 = .ok (.aload_n 0, 1) := by decide +kernel
theorem zd190_46 : decode (z_b 190) 46 = .ok (.iconst 0, 1) := by decide +kernel
theorem zf190_160 : z_fF (z_oc 190) 160 = some ((27, [12]), "DoorBenchModel") := by decide +kernel
theorem zd190_47 : decode (z_b 190) 47 = .ok (.putfield 160, 3) := by decide +kernel
theorem zd190_50 : decode (z_b 190) 50 = .ok (.aload_n 0, 1) := by decide +kernel
theorem zd190_51 : decode (z_b 190) 51 = .ok (.iconst 0, 1) := by decide +kernel
theorem zf190_183 : z_fF (z_oc 190) 183 = some ((28, [12]), "DoorBenchModel") := by decide +kernel
theorem zd190_52 : decode (z_b 190) 52 = .ok (.putfield 183, 3) := by decide +kernel
theorem zd190_55 : decode (z_b 190) 55 = .ok (.aload_n 0, 1) := by decide +kernel
theorem zf190_25 : z_fF (z_oc 190) 25 = some ((6, [12]), "DoorBenchModel") := by decide +kernel
theorem zd190_56 : decode (z_b 190) 56 = .ok (.getfield 25, 3) := by decide +kernel
theorem zd190_59 : decode (z_b 190) 59 = .ok (.iload_n 1, 1) := by decide +kernel
theorem zd190_60 : decode (z_b 190) 60 = .ok (.iconst 0, 1) := by decide +kernel
theorem zd190_61 : decode (z_b 190) 61 = .ok (.iastore, 1) := by decide +kernel
theorem zd190_62 : decode (z_b 190) 62 = .ok (.aload_n 0, 1) := by decide +kernel
theorem zf190_31 : z_fF (z_oc 190) 31 = some ((8, [12]), "DoorBenchModel") := by decide +kernel
theorem zd190_63 : decode (z_b 190) 63 = .ok (.getfield 31, 3) := by decide +kernel
theorem zd190_66 : decode (z_b 190) 66 = .ok (.iload_n 1, 1) := by decide +kernel
theorem zd190_67 : decode (z_b 190) 67 = .ok (.iconst 0, 1) := by decide +kernel
theorem zd190_68 : decode (z_b 190) 68 = .ok (.iastore, 1) := by decide +kernel
theorem zd190_69 : decode (z_b 190) 69 = .ok (.aload_n 0, 1) := by decide +kernel
theorem zf190_34 : z_fF (z_oc 190) 34 = some ((9, [12]), "DoorBenchModel") := by decide +kernel
theorem zd190_70 : decode (z_b 190) 70 = .ok (.getfield 34, 3) := by decide +kernel
theorem zd190_73 : decode (z_b 190) 73 = .ok (.iload_n 1, 1) := by decide +kernel
theorem zd190_74 : decode (z_b 190) 74 = .ok (.iconst 0, 1) := by decide +kernel
theorem zd190_75 : decode (z_b 190) 75 = .ok (.iastore, 1) := by decide +kernel
theorem zd190_76 : decode (z_b 190) 76 = .ok (.aload_n 0, 1) := by decide +kernel
theorem zcV190_196 : (z_find z_cV (z_oc 190) 196).map (·.1) = some (1, 0, [(12, 191)]) := by decide +kernel
theorem zd190_77 : decode (z_b 190) 77 = .ok (.invokevirtual 196, 3) := by decide +kernel
theorem zm191 : z_ml 191 = 5 := by decide +kernel
theorem zd191_0 : decode (z_b 191) 0 = .ok (.aload_n 0, 1) := by decide +kernel
theorem zf191_22 : z_fF (z_oc 191) 22 = some ((5, [12]), "DoorBenchModel") := by decide +kernel
theorem zd191_1 : decode (z_b 191) 1 = .ok (.getfield 22, 3) := by decide +kernel
theorem zd191_4 : decode (z_b 191) 4 = .ok (.aload_n 0, 1) := by decide +kernel
theorem zf191_133 : z_fF (z_oc 191) 133 = some ((22, [12]), "DoorBenchModel") := by decide +kernel
theorem zd191_5 : decode (z_b 191) 5 = .ok (.getfield 133, 3) := by decide +kernel
theorem zd191_8 : decode (z_b 191) 8 = .ok (.iconst 0, 1) := by decide +kernel
theorem zd191_9 : decode (z_b 191) 9 = .ok (.iastore, 1) := by decide +kernel
theorem zd191_10 : decode (z_b 191) 10 = .ok (.aload_n 0, 1) := by decide +kernel
theorem zd191_11 : decode (z_b 191) 11 = .ok (.bipush 113, 2) := by decide +kernel
theorem zcV191_147 : (z_find z_cV (z_oc 191) 147).map (·.1) = some (1, 1, [(12, 192)]) := by decide +kernel
theorem zd191_13 : decode (z_b 191) 13 = .ok (.invokevirtual 147, 3) := by decide +kernel
theorem zm192 : z_ml 192 = 2 := by decide +kernel
theorem zd192_0 : decode (z_b 192) 0 = .ok (.aload_n 0, 1) := by decide +kernel
theorem zf192_136 : z_fF (z_oc 192) 136 = some ((26, [12]), "DoorBenchModel") := by decide +kernel
theorem zd192_1 : decode (z_b 192) 1 = .ok (.getfield 136, 3) := by decide +kernel
theorem zd192_4 : decode (z_b 192) 4 = .ok (.ifCond .ge 11, 3) := by decide +kernel
theorem zd192_7 : decode (z_b 192) 7 = .ok (.aload_n 0, 1) := by decide +kernel
theorem zcV192_139 : (z_find z_cV (z_oc 192) 139).map (·.1) = some (1, 0, [(12, 193)]) := by decide +kernel
theorem zd192_8 : decode (z_b 192) 8 = .ok (.invokevirtual 139, 3) := by decide +kernel
theorem zm193 : z_ml 193 = 1 := by decide +kernel
theorem zd193_0 : decode (z_b 193) 0 = .ok (.aload_n 0, 1) := by decide +kernel
theorem zf193_123 : z_fF (z_oc 193) 123 = some ((24, [12]), "DoorBenchModel") := by decide +kernel
theorem zd193_1 : decode (z_b 193) 1 = .ok (.getfield 123, 3) := by decide +kernel
theorem zd193_4 : decode (z_b 193) 4 = .ok (.aload_n 0, 1) := by decide +kernel
theorem zf193_126 : z_fF (z_oc 193) 126 = some ((25, [12]), "DoorBenchModel") := by decide +kernel
theorem zd193_5 : decode (z_b 193) 5 = .ok (.getfield 126, 3) := by decide +kernel
theorem zd193_8 : decode (z_b 193) 8 = .ok (.if_icmp .ge 43, 3) := by decide +kernel
theorem zd193_51 : decode (z_b 193) 51 = .ok (.iconst 0, 1) := by decide +kernel
theorem zr193 : z_rt 193 = some (.int) := by decide +kernel
theorem zd193_52 : decode (z_b 193) 52 = .ok (.ireturn, 1) := by decide +kernel
theorem zd192_11 : decode (z_b 192) 11 = .ok (.iload_n 1, 1) := by decide +kernel
theorem zd192_12 : decode (z_b 192) 12 = .ok (.if_icmp .eq 5, 3) := by decide +kernel
theorem zd192_15 : decode (z_b 192) 15 = .ok (.iconst 0, 1) := by decide +kernel
theorem zr192 : z_rt 192 = some (.boolean) := by decide +kernel
theorem zd192_16 : decode (z_b 192) 16 = .ok (.ireturn, 1) := by decide +kernel
theorem zd191_16 : decode (z_b 191) 16 = .ok (.ifCond .eq 12, 3) := by decide +kernel
theorem zd191_28 : decode (z_b 191) 28 = .ok (.aload_n 0, 1) := by decide +kernel
theorem zcV191_163 : (z_find z_cV (z_oc 191) 163).map (·.1) = some (1, 0, [(12, 194)]) := by decide +kernel
theorem zd191_29 : decode (z_b 191) 29 = .ok (.invokevirtual 163, 3) := by decide +kernel
theorem zm194 : z_ml 194 = 1 := by decide +kernel
theorem zd194_0 : decode (z_b 194) 0 = .ok (.aload_n 0, 1) := by decide +kernel
theorem zd194_1 : decode (z_b 194) 1 = .ok (.aload_n 0, 1) := by decide +kernel
theorem zf194_136 : z_fF (z_oc 194) 136 = some ((26, [12]), "DoorBenchModel") := by decide +kernel
theorem zd194_2 : decode (z_b 194) 2 = .ok (.getfield 136, 3) := by decide +kernel
theorem zd194_5 : decode (z_b 194) 5 = .ok (.ifCond .ge 10, 3) := by decide +kernel
theorem zd194_8 : decode (z_b 194) 8 = .ok (.aload_n 0, 1) := by decide +kernel
theorem zf194_123 : z_fF (z_oc 194) 123 = some ((24, [12]), "DoorBenchModel") := by decide +kernel
theorem zd194_9 : decode (z_b 194) 9 = .ok (.getfield 123, 3) := by decide +kernel
theorem zd194_12 : decode (z_b 194) 12 = .ok (.goto 7, 3) := by decide +kernel
theorem zd194_19 : decode (z_b 194) 19 = .ok (.putfield 136, 3) := by decide +kernel
theorem zd194_22 : decode (z_b 194) 22 = .ok (.iconst 0, 1) := by decide +kernel
theorem zr194 : z_rt 194 = some (.boolean) := by decide +kernel
theorem zd194_23 : decode (z_b 194) 23 = .ok (.ireturn, 1) := by decide +kernel
theorem zd191_32 : decode (z_b 191) 32 = .ok (.istore_n 1, 1) := by decide +kernel
theorem zr191 : z_rt 191 = none := by decide +kernel
theorem zd191_33 : decode (z_b 191) 33 = .ok (.return_, 1) := by decide +kernel
theorem zd190_80 : decode (z_b 190) 80 = .ok (.aload_n 0, 1) := by decide +kernel
theorem zd190_81 : decode (z_b 190) 81 = .ok (.bipush 59, 2) := by decide +kernel
theorem zcV190_147 : (z_find z_cV (z_oc 190) 147).map (·.1) = some (1, 1, [(12, 192)]) := by decide +kernel
theorem zd190_83 : decode (z_b 190) 83 = .ok (.invokevirtual 147, 3) := by decide +kernel
theorem zd190_86 : decode (z_b 190) 86 = .ok (.ifCond .eq 10, 3) := by decide +kernel
theorem zd190_96 : decode (z_b 190) 96 = .ok (.aload_n 0, 1) := by decide +kernel
theorem zd190_97 : decode (z_b 190) 97 = .ok (.getfield 136, 3) := by decide +kernel
theorem zd190_100 : decode (z_b 190) 100 = .ok (.ifCond .ge 19, 3) := by decide +kernel
theorem zd190_119 : decode (z_b 190) 119 = .ok (.aload_n 0, 1) := by decide +kernel
theorem zd190_120 : decode (z_b 190) 120 = .ok (.getfield 120, 3) := by decide +kernel
theorem zd190_123 : decode (z_b 190) 123 = .ok (.istore_n 2, 1) := by decide +kernel
theorem zd190_124 : decode (z_b 190) 124 = .ok (.aload_n 0, 1) := by decide +kernel
theorem zd190_125 : decode (z_b 190) 125 = .ok (.iconst 0, 1) := by decide +kernel
theorem zd190_126 : decode (z_b 190) 126 = .ok (.putfield 120, 3) := by decide +kernel
theorem zd190_129 : decode (z_b 190) 129 = .ok (.aload_n 0, 1) := by decide +kernel
theorem zd190_130 : decode (z_b 190) 130 = .ok (.getfield 136, 3) := by decide +kernel
theorem zd190_133 : decode (z_b 190) 133 = .ok (.ifCond .lt 11, 3) := by decide +kernel
theorem zd190_136 : decode (z_b 190) 136 = .ok (.bipush (-100), 2) := by decide +kernel
theorem zd190_138 : decode (z_b 190) 138 = .ok (.aload_n 0, 1) := by decide +kernel
theorem zd190_139 : decode (z_b 190) 139 = .ok (.getfield 136, 3) := by decide +kernel
theorem zd190_142 : decode (z_b 190) 142 = .ok (.isub, 1) := by decide +kernel
theorem zr190 : z_rt 190 = some (.int) := by decide +kernel
theorem zd190_143 : decode (z_b 190) 143 = .ok (.ireturn, 1) := by decide +kernel
theorem zd0_241 : decode (z_b 0) 241 = .ok (.if_icmp .eq 1534, 3) := by decide +kernel
theorem zd0_246 : decode (z_b 0) 246 = .ok (.aload_n 1, 1) := by decide +kernel
theorem zd0_247 : decode (z_b 0) 247 = .ok (.aload_n 0, 1) := by decide +kernel
theorem zd0_248 : decode (z_b 0) 248 = .ok (.iload_n 3, 1) := by decide +kernel
theorem zd0_249 : decode (z_b 0) 249 = .ok (.iconst 1, 1) := by decide +kernel
theorem zd0_250 : decode (z_b 0) 250 = .ok (.iadd, 1) := by decide +kernel
theorem zd0_251 : decode (z_b 0) 251 = .ok (.iaload, 1) := by decide +kernel
theorem zd0_252 : decode (z_b 0) 252 = .ok (.aload_n 0, 1) := by decide +kernel
theorem zd0_253 : decode (z_b 0) 253 = .ok (.iload_n 3, 1) := by decide +kernel
theorem zd0_254 : decode (z_b 0) 254 = .ok (.iconst 2, 1) := by decide +kernel
theorem zd0_255 : decode (z_b 0) 255 = .ok (.iadd, 1) := by decide +kernel
theorem zd0_256 : decode (z_b 0) 256 = .ok (.iaload, 1) := by decide +kernel
theorem zcV0_23 : (z_find z_cV (z_oc 0) 23).map (·.1) = some (1, 2, [(0, 34)]) := by decide +kernel
theorem zd0_257 : decode (z_b 0) 257 = .ok (.invokevirtual 23, 3) := by decide +kernel
theorem zm34 : z_ml 34 = 4 := by decide +kernel
theorem zd34_0 : decode (z_b 34) 0 = .ok (.aload_n 0, 1) := by decide +kernel
theorem zd34_1 : decode (z_b 34) 1 = .ok (.iload_n 1, 1) := by decide +kernel
theorem zcV34_85 : (z_find z_cV (z_oc 34) 85).map (·.1) = some (1, 1, [(0, 35)]) := by decide +kernel
theorem zd34_2 : decode (z_b 34) 2 = .ok (.invokevirtual 85, 3) := by decide +kernel
theorem zm35 : z_ml 35 = 2 := by decide +kernel
theorem zd35_0 : decode (z_b 35) 0 = .ok (.iload_n 1, 1) := by decide +kernel
theorem zd35_1 : decode (z_b 35) 1 = .ok (.ifCond .lt 11, 3) := by decide +kernel
theorem zd35_12 : decode (z_b 35) 12 = .ok (.aconst_null, 1) := by decide +kernel
theorem zd35_13 : decode (z_b 35) 13 = .ok (.goto 9, 3) := by decide +kernel
theorem zr35 : z_rt 35 = some (.object "DoorBench$Bench") := by decide +kernel
theorem zd35_22 : decode (z_b 35) 22 = .ok (.areturn, 1) := by decide +kernel
theorem zd34_5 : decode (z_b 34) 5 = .ok (.astore_n 3, 1) := by decide +kernel
theorem zd34_6 : decode (z_b 34) 6 = .ok (.aload_n 3, 1) := by decide +kernel
theorem zd34_7 : decode (z_b 34) 7 = .ok (.ifnonnull 5, 3) := by decide +kernel
theorem zd34_10 : decode (z_b 34) 10 = .ok (.iconst (-1), 1) := by decide +kernel
theorem zr34 : z_rt 34 = some (.int) := by decide +kernel
theorem zd34_11 : decode (z_b 34) 11 = .ok (.ireturn, 1) := by decide +kernel
theorem zd0_260 : decode (z_b 0) 260 = .ok (.aload_n 2, 1) := by decide +kernel
theorem zd0_261 : decode (z_b 0) 261 = .ok (.aload_n 0, 1) := by decide +kernel
theorem zd0_262 : decode (z_b 0) 262 = .ok (.iload_n 3, 1) := by decide +kernel
theorem zd0_263 : decode (z_b 0) 263 = .ok (.iconst 1, 1) := by decide +kernel
theorem zd0_264 : decode (z_b 0) 264 = .ok (.iadd, 1) := by decide +kernel
theorem zd0_265 : decode (z_b 0) 265 = .ok (.iaload, 1) := by decide +kernel
theorem zd0_266 : decode (z_b 0) 266 = .ok (.aload_n 0, 1) := by decide +kernel
theorem zd0_267 : decode (z_b 0) 267 = .ok (.iload_n 3, 1) := by decide +kernel
theorem zd0_268 : decode (z_b 0) 268 = .ok (.iconst 2, 1) := by decide +kernel
theorem zd0_269 : decode (z_b 0) 269 = .ok (.iadd, 1) := by decide +kernel
theorem zd0_270 : decode (z_b 0) 270 = .ok (.iaload, 1) := by decide +kernel
theorem zcV0_26 : (z_find z_cV (z_oc 0) 26).map (·.1) = some (1, 2, [(12, 208)]) := by decide +kernel
theorem zd0_271 : decode (z_b 0) 271 = .ok (.invokevirtual 26, 3) := by decide +kernel
theorem zm208 : z_ml 208 = 3 := by decide +kernel
theorem zd208_0 : decode (z_b 208) 0 = .ok (.aload_n 0, 1) := by decide +kernel
theorem zd208_1 : decode (z_b 208) 1 = .ok (.iload_n 1, 1) := by decide +kernel
theorem zcV208_209 : (z_find z_cV (z_oc 208) 209).map (·.1) = some (1, 1, [(12, 209)]) := by decide +kernel
theorem zd208_2 : decode (z_b 208) 2 = .ok (.invokevirtual 209, 3) := by decide +kernel
theorem zm209 : z_ml 209 = 2 := by decide +kernel
theorem zd209_0 : decode (z_b 209) 0 = .ok (.iload_n 1, 1) := by decide +kernel
theorem zd209_1 : decode (z_b 209) 1 = .ok (.ifCond .lt 15, 3) := by decide +kernel
theorem zd209_16 : decode (z_b 209) 16 = .ok (.iconst 0, 1) := by decide +kernel
theorem zr209 : z_rt 209 = some (.boolean) := by decide +kernel
theorem zd209_17 : decode (z_b 209) 17 = .ok (.ireturn, 1) := by decide +kernel
theorem zd208_5 : decode (z_b 208) 5 = .ok (.ifCond .ne 5, 3) := by decide +kernel
theorem zd208_8 : decode (z_b 208) 8 = .ok (.iconst (-1), 1) := by decide +kernel
theorem zr208 : z_rt 208 = some (.int) := by decide +kernel
theorem zd208_9 : decode (z_b 208) 9 = .ok (.ireturn, 1) := by decide +kernel
theorem zd0_274 : decode (z_b 0) 274 = .ok (.if_icmp .eq 1501, 3) := by decide +kernel
theorem zd35_4 : decode (z_b 35) 4 = .ok (.iload_n 1, 1) := by decide +kernel
theorem zd35_5 : decode (z_b 35) 5 = .ok (.aload_n 0, 1) := by decide +kernel
theorem zf35_59 : z_fF (z_oc 35) 59 = some ((3, [0]), "DoorBench") := by decide +kernel
theorem zd35_6 : decode (z_b 35) 6 = .ok (.getfield 59, 3) := by decide +kernel
theorem zd35_9 : decode (z_b 35) 9 = .ok (.if_icmp .lt 7, 3) := by decide +kernel
theorem zd209_4 : decode (z_b 209) 4 = .ok (.iload_n 1, 1) := by decide +kernel
theorem zd209_5 : decode (z_b 209) 5 = .ok (.aload_n 0, 1) := by decide +kernel
theorem zf209_110 : z_fF (z_oc 209) 110 = some ((13, [12]), "DoorBenchModel") := by decide +kernel
theorem zd209_6 : decode (z_b 209) 6 = .ok (.getfield 110, 3) := by decide +kernel
theorem zd209_9 : decode (z_b 209) 9 = .ok (.if_icmp .ge 7, 3) := by decide +kernel
theorem zd0_279 : decode (z_b 0) 279 = .ok (.aload_n 1, 1) := by decide +kernel
theorem zd0_280 : decode (z_b 0) 280 = .ok (.aload_n 0, 1) := by decide +kernel
theorem zd0_281 : decode (z_b 0) 281 = .ok (.iload_n 3, 1) := by decide +kernel
theorem zd0_282 : decode (z_b 0) 282 = .ok (.iconst 1, 1) := by decide +kernel
theorem zd0_283 : decode (z_b 0) 283 = .ok (.iadd, 1) := by decide +kernel
theorem zd0_284 : decode (z_b 0) 284 = .ok (.iaload, 1) := by decide +kernel
theorem zd0_285 : decode (z_b 0) 285 = .ok (.aload_n 0, 1) := by decide +kernel
theorem zd0_286 : decode (z_b 0) 286 = .ok (.iload_n 3, 1) := by decide +kernel
theorem zd0_287 : decode (z_b 0) 287 = .ok (.iconst 2, 1) := by decide +kernel
theorem zd0_288 : decode (z_b 0) 288 = .ok (.iadd, 1) := by decide +kernel
theorem zd0_289 : decode (z_b 0) 289 = .ok (.iaload, 1) := by decide +kernel
theorem zcV0_27 : (z_find z_cV (z_oc 0) 27).map (·.1) = some (1, 2, [(0, 36)]) := by decide +kernel
theorem zd0_290 : decode (z_b 0) 290 = .ok (.invokevirtual 27, 3) := by decide +kernel
theorem zm36 : z_ml 36 = 4 := by decide +kernel
theorem zd36_0 : decode (z_b 36) 0 = .ok (.aload_n 0, 1) := by decide +kernel
theorem zd36_1 : decode (z_b 36) 1 = .ok (.iload_n 1, 1) := by decide +kernel
theorem zcV36_108 : (z_find z_cV (z_oc 36) 108).map (·.1) = some (1, 1, [(0, 37)]) := by decide +kernel
theorem zd36_2 : decode (z_b 36) 2 = .ok (.invokevirtual 108, 3) := by decide +kernel
theorem zm37 : z_ml 37 = 2 := by decide +kernel
theorem zd37_0 : decode (z_b 37) 0 = .ok (.iload_n 1, 1) := by decide +kernel
theorem zd37_1 : decode (z_b 37) 1 = .ok (.ifCond .lt 11, 3) := by decide +kernel
theorem zd37_12 : decode (z_b 37) 12 = .ok (.aconst_null, 1) := by decide +kernel
theorem zd37_13 : decode (z_b 37) 13 = .ok (.goto 12, 3) := by decide +kernel
theorem zr37 : z_rt 37 = some (.object "DoorBench$Agenda") := by decide +kernel
theorem zd37_25 : decode (z_b 37) 25 = .ok (.areturn, 1) := by decide +kernel
theorem zd36_5 : decode (z_b 36) 5 = .ok (.astore_n 3, 1) := by decide +kernel
theorem zd36_6 : decode (z_b 36) 6 = .ok (.aload_n 3, 1) := by decide +kernel
theorem zd36_7 : decode (z_b 36) 7 = .ok (.ifnull 16, 3) := by decide +kernel
theorem zd36_23 : decode (z_b 36) 23 = .ok (.iconst (-1), 1) := by decide +kernel
theorem zr36 : z_rt 36 = some (.int) := by decide +kernel
theorem zd36_24 : decode (z_b 36) 24 = .ok (.ireturn, 1) := by decide +kernel
theorem zd0_293 : decode (z_b 0) 293 = .ok (.aload_n 2, 1) := by decide +kernel
theorem zd0_294 : decode (z_b 0) 294 = .ok (.aload_n 0, 1) := by decide +kernel
theorem zd0_295 : decode (z_b 0) 295 = .ok (.iload_n 3, 1) := by decide +kernel
theorem zd0_296 : decode (z_b 0) 296 = .ok (.iconst 1, 1) := by decide +kernel
theorem zd0_297 : decode (z_b 0) 297 = .ok (.iadd, 1) := by decide +kernel
theorem zd0_298 : decode (z_b 0) 298 = .ok (.iaload, 1) := by decide +kernel
theorem zd0_299 : decode (z_b 0) 299 = .ok (.aload_n 0, 1) := by decide +kernel
theorem zd0_300 : decode (z_b 0) 300 = .ok (.iload_n 3, 1) := by decide +kernel
theorem zd0_301 : decode (z_b 0) 301 = .ok (.iconst 2, 1) := by decide +kernel
theorem zd0_302 : decode (z_b 0) 302 = .ok (.iadd, 1) := by decide +kernel
theorem zd0_303 : decode (z_b 0) 303 = .ok (.iaload, 1) := by decide +kernel
theorem zcV0_30 : (z_find z_cV (z_oc 0) 30).map (·.1) = some (1, 2, [(12, 210)]) := by decide +kernel
theorem zd0_304 : decode (z_b 0) 304 = .ok (.invokevirtual 30, 3) := by decide +kernel
theorem zm210 : z_ml 210 = 3 := by decide +kernel
theorem zd210_0 : decode (z_b 210) 0 = .ok (.aload_n 0, 1) := by decide +kernel
theorem zd210_1 : decode (z_b 210) 1 = .ok (.iload_n 1, 1) := by decide +kernel
theorem zcV210_209 : (z_find z_cV (z_oc 210) 209).map (·.1) = some (1, 1, [(12, 209)]) := by decide +kernel
theorem zd210_2 : decode (z_b 210) 2 = .ok (.invokevirtual 209, 3) := by decide +kernel
theorem zd210_5 : decode (z_b 210) 5 = .ok (.ifCond .eq 32, 3) := by decide +kernel
theorem zd210_37 : decode (z_b 210) 37 = .ok (.iconst (-1), 1) := by decide +kernel
theorem zr210 : z_rt 210 = some (.int) := by decide +kernel
theorem zd210_38 : decode (z_b 210) 38 = .ok (.ireturn, 1) := by decide +kernel
theorem zd0_307 : decode (z_b 0) 307 = .ok (.if_icmp .eq 1468, 3) := by decide +kernel
theorem zd37_4 : decode (z_b 37) 4 = .ok (.iload_n 1, 1) := by decide +kernel
theorem zd37_5 : decode (z_b 37) 5 = .ok (.aload_n 0, 1) := by decide +kernel
theorem zf37_59 : z_fF (z_oc 37) 59 = some ((3, [0]), "DoorBench") := by decide +kernel
theorem zd37_6 : decode (z_b 37) 6 = .ok (.getfield 59, 3) := by decide +kernel
theorem zd37_9 : decode (z_b 37) 9 = .ok (.if_icmp .lt 7, 3) := by decide +kernel
theorem zd0_312 : decode (z_b 0) 312 = .ok (.aload_n 1, 1) := by decide +kernel
theorem zd0_313 : decode (z_b 0) 313 = .ok (.aload_n 0, 1) := by decide +kernel
theorem zd0_314 : decode (z_b 0) 314 = .ok (.iload_n 3, 1) := by decide +kernel
theorem zd0_315 : decode (z_b 0) 315 = .ok (.iconst 1, 1) := by decide +kernel
theorem zd0_316 : decode (z_b 0) 316 = .ok (.iadd, 1) := by decide +kernel
theorem zd0_317 : decode (z_b 0) 317 = .ok (.iaload, 1) := by decide +kernel
theorem zd0_318 : decode (z_b 0) 318 = .ok (.aload_n 0, 1) := by decide +kernel
theorem zd0_319 : decode (z_b 0) 319 = .ok (.iload_n 3, 1) := by decide +kernel
theorem zd0_320 : decode (z_b 0) 320 = .ok (.iconst 2, 1) := by decide +kernel
theorem zd0_321 : decode (z_b 0) 321 = .ok (.iadd, 1) := by decide +kernel
theorem zd0_322 : decode (z_b 0) 322 = .ok (.iaload, 1) := by decide +kernel
theorem zcV0_31 : (z_find z_cV (z_oc 0) 31).map (·.1) = some (1, 2, [(0, 38)]) := by decide +kernel
theorem zd0_323 : decode (z_b 0) 323 = .ok (.invokevirtual 31, 3) := by decide +kernel
theorem zm38 : z_ml 38 = 4 := by decide +kernel
theorem zd38_0 : decode (z_b 38) 0 = .ok (.aload_n 0, 1) := by decide +kernel
theorem zd38_1 : decode (z_b 38) 1 = .ok (.iload_n 1, 1) := by decide +kernel
theorem zcV38_108 : (z_find z_cV (z_oc 38) 108).map (·.1) = some (1, 1, [(0, 37)]) := by decide +kernel
theorem zd38_2 : decode (z_b 38) 2 = .ok (.invokevirtual 108, 3) := by decide +kernel
theorem zd38_5 : decode (z_b 38) 5 = .ok (.astore_n 3, 1) := by decide +kernel
theorem zd38_6 : decode (z_b 38) 6 = .ok (.aload_n 3, 1) := by decide +kernel
theorem zd38_7 : decode (z_b 38) 7 = .ok (.ifnull 11, 3) := by decide +kernel
theorem zd38_18 : decode (z_b 38) 18 = .ok (.iconst (-1), 1) := by decide +kernel
theorem zr38 : z_rt 38 = some (.int) := by decide +kernel
theorem zd38_19 : decode (z_b 38) 19 = .ok (.ireturn, 1) := by decide +kernel
theorem zd0_326 : decode (z_b 0) 326 = .ok (.aload_n 2, 1) := by decide +kernel
theorem zd0_327 : decode (z_b 0) 327 = .ok (.aload_n 0, 1) := by decide +kernel
theorem zd0_328 : decode (z_b 0) 328 = .ok (.iload_n 3, 1) := by decide +kernel
theorem zd0_329 : decode (z_b 0) 329 = .ok (.iconst 1, 1) := by decide +kernel
theorem zd0_330 : decode (z_b 0) 330 = .ok (.iadd, 1) := by decide +kernel
theorem zd0_331 : decode (z_b 0) 331 = .ok (.iaload, 1) := by decide +kernel
theorem zd0_332 : decode (z_b 0) 332 = .ok (.aload_n 0, 1) := by decide +kernel
theorem zd0_333 : decode (z_b 0) 333 = .ok (.iload_n 3, 1) := by decide +kernel
theorem zd0_334 : decode (z_b 0) 334 = .ok (.iconst 2, 1) := by decide +kernel
theorem zd0_335 : decode (z_b 0) 335 = .ok (.iadd, 1) := by decide +kernel
theorem zd0_336 : decode (z_b 0) 336 = .ok (.iaload, 1) := by decide +kernel
theorem zcV0_34 : (z_find z_cV (z_oc 0) 34).map (·.1) = some (1, 2, [(12, 211)]) := by decide +kernel
theorem zd0_337 : decode (z_b 0) 337 = .ok (.invokevirtual 34, 3) := by decide +kernel
theorem zm211 : z_ml 211 = 3 := by decide +kernel
theorem zd211_0 : decode (z_b 211) 0 = .ok (.aload_n 0, 1) := by decide +kernel
theorem zd211_1 : decode (z_b 211) 1 = .ok (.iload_n 1, 1) := by decide +kernel
theorem zcV211_209 : (z_find z_cV (z_oc 211) 209).map (·.1) = some (1, 1, [(12, 209)]) := by decide +kernel
theorem zd211_2 : decode (z_b 211) 2 = .ok (.invokevirtual 209, 3) := by decide +kernel
theorem zd211_5 : decode (z_b 211) 5 = .ok (.ifCond .eq 27, 3) := by decide +kernel
theorem zd211_32 : decode (z_b 211) 32 = .ok (.iconst (-1), 1) := by decide +kernel
theorem zr211 : z_rt 211 = some (.int) := by decide +kernel
theorem zd211_33 : decode (z_b 211) 33 = .ok (.ireturn, 1) := by decide +kernel
theorem zd0_340 : decode (z_b 0) 340 = .ok (.if_icmp .eq 1435, 3) := by decide +kernel
theorem zd0_345 : decode (z_b 0) 345 = .ok (.aload_n 1, 1) := by decide +kernel
theorem zd0_346 : decode (z_b 0) 346 = .ok (.aload_n 0, 1) := by decide +kernel
theorem zd0_347 : decode (z_b 0) 347 = .ok (.iload_n 3, 1) := by decide +kernel
theorem zd0_348 : decode (z_b 0) 348 = .ok (.iconst 1, 1) := by decide +kernel
theorem zd0_349 : decode (z_b 0) 349 = .ok (.iadd, 1) := by decide +kernel
theorem zd0_350 : decode (z_b 0) 350 = .ok (.iaload, 1) := by decide +kernel
theorem zd0_351 : decode (z_b 0) 351 = .ok (.aload_n 0, 1) := by decide +kernel
theorem zd0_352 : decode (z_b 0) 352 = .ok (.iload_n 3, 1) := by decide +kernel
theorem zd0_353 : decode (z_b 0) 353 = .ok (.iconst 2, 1) := by decide +kernel
theorem zd0_354 : decode (z_b 0) 354 = .ok (.iadd, 1) := by decide +kernel
theorem zd0_355 : decode (z_b 0) 355 = .ok (.iaload, 1) := by decide +kernel
theorem zd0_356 : decode (z_b 0) 356 = .ok (.aload_n 0, 1) := by decide +kernel
theorem zd0_357 : decode (z_b 0) 357 = .ok (.iload_n 3, 1) := by decide +kernel
theorem zd0_358 : decode (z_b 0) 358 = .ok (.iconst 3, 1) := by decide +kernel
theorem zd0_359 : decode (z_b 0) 359 = .ok (.iadd, 1) := by decide +kernel
theorem zd0_360 : decode (z_b 0) 360 = .ok (.iaload, 1) := by decide +kernel
theorem zcV0_35 : (z_find z_cV (z_oc 0) 35).map (·.1) = some (1, 3, [(0, 42)]) := by decide +kernel
theorem zd0_361 : decode (z_b 0) 361 = .ok (.invokevirtual 35, 3) := by decide +kernel
theorem zm42 : z_ml 42 = 5 := by decide +kernel
theorem zd42_0 : decode (z_b 42) 0 = .ok (.aload_n 0, 1) := by decide +kernel
theorem zd42_1 : decode (z_b 42) 1 = .ok (.iload_n 1, 1) := by decide +kernel
theorem zcV42_108 : (z_find z_cV (z_oc 42) 108).map (·.1) = some (1, 1, [(0, 37)]) := by decide +kernel
theorem zd42_2 : decode (z_b 42) 2 = .ok (.invokevirtual 108, 3) := by decide +kernel
theorem zd42_5 : decode (z_b 42) 5 = .ok (.astore 4, 2) := by decide +kernel
theorem zd42_7 : decode (z_b 42) 7 = .ok (.aload 4, 2) := by decide +kernel
theorem zd42_9 : decode (z_b 42) 9 = .ok (.ifnull 13, 3) := by decide +kernel
theorem zd42_22 : decode (z_b 42) 22 = .ok (.iconst (-1), 1) := by decide +kernel
theorem zr42 : z_rt 42 = some (.int) := by decide +kernel
theorem zd42_23 : decode (z_b 42) 23 = .ok (.ireturn, 1) := by decide +kernel
theorem zd0_364 : decode (z_b 0) 364 = .ok (.aload_n 2, 1) := by decide +kernel
theorem zd0_365 : decode (z_b 0) 365 = .ok (.aload_n 0, 1) := by decide +kernel
theorem zd0_366 : decode (z_b 0) 366 = .ok (.iload_n 3, 1) := by decide +kernel
theorem zd0_367 : decode (z_b 0) 367 = .ok (.iconst 1, 1) := by decide +kernel
theorem zd0_368 : decode (z_b 0) 368 = .ok (.iadd, 1) := by decide +kernel
theorem zd0_369 : decode (z_b 0) 369 = .ok (.iaload, 1) := by decide +kernel
theorem zd0_370 : decode (z_b 0) 370 = .ok (.aload_n 0, 1) := by decide +kernel
theorem zd0_371 : decode (z_b 0) 371 = .ok (.iload_n 3, 1) := by decide +kernel
theorem zd0_372 : decode (z_b 0) 372 = .ok (.iconst 2, 1) := by decide +kernel
theorem zd0_373 : decode (z_b 0) 373 = .ok (.iadd, 1) := by decide +kernel
theorem zd0_374 : decode (z_b 0) 374 = .ok (.iaload, 1) := by decide +kernel
theorem zd0_375 : decode (z_b 0) 375 = .ok (.aload_n 0, 1) := by decide +kernel
theorem zd0_376 : decode (z_b 0) 376 = .ok (.iload_n 3, 1) := by decide +kernel
theorem zd0_377 : decode (z_b 0) 377 = .ok (.iconst 3, 1) := by decide +kernel
theorem zd0_378 : decode (z_b 0) 378 = .ok (.iadd, 1) := by decide +kernel
theorem zd0_379 : decode (z_b 0) 379 = .ok (.iaload, 1) := by decide +kernel
theorem zcV0_39 : (z_find z_cV (z_oc 0) 39).map (·.1) = some (1, 3, [(12, 213)]) := by decide +kernel
theorem zd0_380 : decode (z_b 0) 380 = .ok (.invokevirtual 39, 3) := by decide +kernel
theorem zm213 : z_ml 213 = 4 := by decide +kernel
theorem zd213_0 : decode (z_b 213) 0 = .ok (.aload_n 0, 1) := by decide +kernel
theorem zd213_1 : decode (z_b 213) 1 = .ok (.iload_n 1, 1) := by decide +kernel
theorem zd213_2 : decode (z_b 213) 2 = .ok (.iload_n 2, 1) := by decide +kernel
theorem zd213_3 : decode (z_b 213) 3 = .ok (.iload_n 3, 1) := by decide +kernel
theorem zcV213_219 : (z_find z_cV (z_oc 213) 219).map (·.1) = some (1, 3, [(12, 214)]) := by decide +kernel
theorem zd213_4 : decode (z_b 213) 4 = .ok (.invokevirtual 219, 3) := by decide +kernel
theorem zm214 : z_ml 214 = 4 := by decide +kernel
theorem zd214_0 : decode (z_b 214) 0 = .ok (.aload_n 0, 1) := by decide +kernel
theorem zd214_1 : decode (z_b 214) 1 = .ok (.iload_n 1, 1) := by decide +kernel
theorem zcV214_209 : (z_find z_cV (z_oc 214) 209).map (·.1) = some (1, 1, [(12, 209)]) := by decide +kernel
theorem zd214_2 : decode (z_b 214) 2 = .ok (.invokevirtual 209, 3) := by decide +kernel
theorem zd214_5 : decode (z_b 214) 5 = .ok (.ifCond .eq 31, 3) := by decide +kernel
theorem zd214_36 : decode (z_b 214) 36 = .ok (.iconst 0, 1) := by decide +kernel
theorem zr214 : z_rt 214 = some (.boolean) := by decide +kernel
theorem zd214_37 : decode (z_b 214) 37 = .ok (.ireturn, 1) := by decide +kernel
theorem zd213_7 : decode (z_b 213) 7 = .ok (.ifCond .ne 5, 3) := by decide +kernel
theorem zd213_10 : decode (z_b 213) 10 = .ok (.iconst (-1), 1) := by decide +kernel
theorem zr213 : z_rt 213 = some (.int) := by decide +kernel
theorem zd213_11 : decode (z_b 213) 11 = .ok (.ireturn, 1) := by decide +kernel
theorem zd0_383 : decode (z_b 0) 383 = .ok (.if_icmp .eq 1392, 3) := by decide +kernel
theorem zd0_388 : decode (z_b 0) 388 = .ok (.aload_n 1, 1) := by decide +kernel
theorem zd0_389 : decode (z_b 0) 389 = .ok (.aload_n 0, 1) := by decide +kernel
theorem zd0_390 : decode (z_b 0) 390 = .ok (.iload_n 3, 1) := by decide +kernel
theorem zd0_391 : decode (z_b 0) 391 = .ok (.iconst 1, 1) := by decide +kernel
theorem zd0_392 : decode (z_b 0) 392 = .ok (.iadd, 1) := by decide +kernel
theorem zd0_393 : decode (z_b 0) 393 = .ok (.iaload, 1) := by decide +kernel
theorem zd0_394 : decode (z_b 0) 394 = .ok (.aload_n 0, 1) := by decide +kernel
theorem zd0_395 : decode (z_b 0) 395 = .ok (.iload_n 3, 1) := by decide +kernel
theorem zd0_396 : decode (z_b 0) 396 = .ok (.iconst 2, 1) := by decide +kernel
theorem zd0_397 : decode (z_b 0) 397 = .ok (.iadd, 1) := by decide +kernel
theorem zd0_398 : decode (z_b 0) 398 = .ok (.iaload, 1) := by decide +kernel
theorem zd0_399 : decode (z_b 0) 399 = .ok (.aload_n 0, 1) := by decide +kernel
theorem zd0_400 : decode (z_b 0) 400 = .ok (.iload_n 3, 1) := by decide +kernel
theorem zd0_401 : decode (z_b 0) 401 = .ok (.iconst 3, 1) := by decide +kernel
theorem zd0_402 : decode (z_b 0) 402 = .ok (.iadd, 1) := by decide +kernel
theorem zd0_403 : decode (z_b 0) 403 = .ok (.iaload, 1) := by decide +kernel
theorem zd0_404 : decode (z_b 0) 404 = .ok (.aload_n 0, 1) := by decide +kernel
theorem zd0_405 : decode (z_b 0) 405 = .ok (.iload_n 3, 1) := by decide +kernel
theorem zd0_406 : decode (z_b 0) 406 = .ok (.iconst 4, 1) := by decide +kernel
theorem zd0_407 : decode (z_b 0) 407 = .ok (.iadd, 1) := by decide +kernel
theorem zd0_408 : decode (z_b 0) 408 = .ok (.iaload, 1) := by decide +kernel
theorem zcV0_40 : (z_find z_cV (z_oc 0) 40).map (·.1) = some (1, 4, [(0, 47)]) := by decide +kernel
theorem zd0_409 : decode (z_b 0) 409 = .ok (.invokevirtual 40, 3) := by decide +kernel
theorem zm47 : z_ml 47 = 7 := by decide +kernel
theorem zd47_0 : decode (z_b 47) 0 = .ok (.aload_n 0, 1) := by decide +kernel
theorem zd47_1 : decode (z_b 47) 1 = .ok (.iload_n 1, 1) := by decide +kernel
theorem zcV47_108 : (z_find z_cV (z_oc 47) 108).map (·.1) = some (1, 1, [(0, 37)]) := by decide +kernel
theorem zd47_2 : decode (z_b 47) 2 = .ok (.invokevirtual 108, 3) := by decide +kernel
theorem zd47_5 : decode (z_b 47) 5 = .ok (.astore 5, 2) := by decide +kernel
theorem zd47_7 : decode (z_b 47) 7 = .ok (.aload 5, 2) := by decide +kernel
theorem zd47_9 : decode (z_b 47) 9 = .ok (.ifnull 23, 3) := by decide +kernel
theorem zd47_32 : decode (z_b 47) 32 = .ok (.iconst (-1), 1) := by decide +kernel
theorem zr47 : z_rt 47 = some (.int) := by decide +kernel
theorem zd47_33 : decode (z_b 47) 33 = .ok (.ireturn, 1) := by decide +kernel
theorem zd0_412 : decode (z_b 0) 412 = .ok (.aload_n 2, 1) := by decide +kernel
theorem zd0_413 : decode (z_b 0) 413 = .ok (.aload_n 0, 1) := by decide +kernel
theorem zd0_414 : decode (z_b 0) 414 = .ok (.iload_n 3, 1) := by decide +kernel
theorem zd0_415 : decode (z_b 0) 415 = .ok (.iconst 1, 1) := by decide +kernel
theorem zd0_416 : decode (z_b 0) 416 = .ok (.iadd, 1) := by decide +kernel
theorem zd0_417 : decode (z_b 0) 417 = .ok (.iaload, 1) := by decide +kernel
theorem zd0_418 : decode (z_b 0) 418 = .ok (.aload_n 0, 1) := by decide +kernel
theorem zd0_419 : decode (z_b 0) 419 = .ok (.iload_n 3, 1) := by decide +kernel
theorem zd0_420 : decode (z_b 0) 420 = .ok (.iconst 2, 1) := by decide +kernel
theorem zd0_421 : decode (z_b 0) 421 = .ok (.iadd, 1) := by decide +kernel
theorem zd0_422 : decode (z_b 0) 422 = .ok (.iaload, 1) := by decide +kernel
theorem zd0_423 : decode (z_b 0) 423 = .ok (.aload_n 0, 1) := by decide +kernel
theorem zd0_424 : decode (z_b 0) 424 = .ok (.iload_n 3, 1) := by decide +kernel
theorem zd0_425 : decode (z_b 0) 425 = .ok (.iconst 3, 1) := by decide +kernel
theorem zd0_426 : decode (z_b 0) 426 = .ok (.iadd, 1) := by decide +kernel
theorem zd0_427 : decode (z_b 0) 427 = .ok (.iaload, 1) := by decide +kernel
theorem zd0_428 : decode (z_b 0) 428 = .ok (.aload_n 0, 1) := by decide +kernel
theorem zd0_429 : decode (z_b 0) 429 = .ok (.iload_n 3, 1) := by decide +kernel
theorem zd0_430 : decode (z_b 0) 430 = .ok (.iconst 4, 1) := by decide +kernel
theorem zd0_431 : decode (z_b 0) 431 = .ok (.iadd, 1) := by decide +kernel
theorem zd0_432 : decode (z_b 0) 432 = .ok (.iaload, 1) := by decide +kernel
theorem zcV0_44 : (z_find z_cV (z_oc 0) 44).map (·.1) = some (1, 4, [(12, 217)]) := by decide +kernel
theorem zd0_433 : decode (z_b 0) 433 = .ok (.invokevirtual 44, 3) := by decide +kernel
theorem zm217 : z_ml 217 = 5 := by decide +kernel
theorem zd217_0 : decode (z_b 217) 0 = .ok (.aload_n 0, 1) := by decide +kernel
theorem zd217_1 : decode (z_b 217) 1 = .ok (.iload_n 1, 1) := by decide +kernel
theorem zd217_2 : decode (z_b 217) 2 = .ok (.iload_n 2, 1) := by decide +kernel
theorem zd217_3 : decode (z_b 217) 3 = .ok (.iload_n 3, 1) := by decide +kernel
theorem zcV217_219 : (z_find z_cV (z_oc 217) 219).map (·.1) = some (1, 3, [(12, 214)]) := by decide +kernel
theorem zd217_4 : decode (z_b 217) 4 = .ok (.invokevirtual 219, 3) := by decide +kernel
theorem zd217_7 : decode (z_b 217) 7 = .ok (.ifCond .eq 25, 3) := by decide +kernel
theorem zd217_32 : decode (z_b 217) 32 = .ok (.iconst (-1), 1) := by decide +kernel
theorem zr217 : z_rt 217 = some (.int) := by decide +kernel
theorem zd217_33 : decode (z_b 217) 33 = .ok (.ireturn, 1) := by decide +kernel
theorem zd0_436 : decode (z_b 0) 436 = .ok (.if_icmp .eq 1339, 3) := by decide +kernel
theorem zd0_441 : decode (z_b 0) 441 = .ok (.aload_n 1, 1) := by decide +kernel
theorem zd0_442 : decode (z_b 0) 442 = .ok (.aload_n 0, 1) := by decide +kernel
theorem zd0_443 : decode (z_b 0) 443 = .ok (.iload_n 3, 1) := by decide +kernel
theorem zd0_444 : decode (z_b 0) 444 = .ok (.iconst 1, 1) := by decide +kernel
theorem zd0_445 : decode (z_b 0) 445 = .ok (.iadd, 1) := by decide +kernel
theorem zd0_446 : decode (z_b 0) 446 = .ok (.iaload, 1) := by decide +kernel
theorem zd0_447 : decode (z_b 0) 447 = .ok (.aload_n 0, 1) := by decide +kernel
theorem zd0_448 : decode (z_b 0) 448 = .ok (.iload_n 3, 1) := by decide +kernel
theorem zd0_449 : decode (z_b 0) 449 = .ok (.iconst 2, 1) := by decide +kernel
theorem zd0_450 : decode (z_b 0) 450 = .ok (.iadd, 1) := by decide +kernel
theorem zd0_451 : decode (z_b 0) 451 = .ok (.iaload, 1) := by decide +kernel
theorem zd0_452 : decode (z_b 0) 452 = .ok (.aload_n 0, 1) := by decide +kernel
theorem zd0_453 : decode (z_b 0) 453 = .ok (.iload_n 3, 1) := by decide +kernel
theorem zd0_454 : decode (z_b 0) 454 = .ok (.iconst 3, 1) := by decide +kernel
theorem zd0_455 : decode (z_b 0) 455 = .ok (.iadd, 1) := by decide +kernel
theorem zd0_456 : decode (z_b 0) 456 = .ok (.iaload, 1) := by decide +kernel
theorem zcV0_45 : (z_find z_cV (z_oc 0) 45).map (·.1) = some (1, 3, [(0, 50)]) := by decide +kernel
theorem zd0_457 : decode (z_b 0) 457 = .ok (.invokevirtual 45, 3) := by decide +kernel
theorem zm50 : z_ml 50 = 6 := by decide +kernel
theorem zd50_0 : decode (z_b 50) 0 = .ok (.aload_n 0, 1) := by decide +kernel
theorem zd50_1 : decode (z_b 50) 1 = .ok (.iload_n 1, 1) := by decide +kernel
theorem zcV50_108 : (z_find z_cV (z_oc 50) 108).map (·.1) = some (1, 1, [(0, 37)]) := by decide +kernel
theorem zd50_2 : decode (z_b 50) 2 = .ok (.invokevirtual 108, 3) := by decide +kernel
theorem zd50_5 : decode (z_b 50) 5 = .ok (.astore 4, 2) := by decide +kernel
theorem zd50_7 : decode (z_b 50) 7 = .ok (.aload 4, 2) := by decide +kernel
theorem zd50_9 : decode (z_b 50) 9 = .ok (.ifnull 13, 3) := by decide +kernel
theorem zd50_22 : decode (z_b 50) 22 = .ok (.iconst (-1), 1) := by decide +kernel
theorem zr50 : z_rt 50 = some (.int) := by decide +kernel
theorem zd50_23 : decode (z_b 50) 23 = .ok (.ireturn, 1) := by decide +kernel
theorem zd0_460 : decode (z_b 0) 460 = .ok (.aload_n 2, 1) := by decide +kernel
theorem zd0_461 : decode (z_b 0) 461 = .ok (.aload_n 0, 1) := by decide +kernel
theorem zd0_462 : decode (z_b 0) 462 = .ok (.iload_n 3, 1) := by decide +kernel
theorem zd0_463 : decode (z_b 0) 463 = .ok (.iconst 1, 1) := by decide +kernel
theorem zd0_464 : decode (z_b 0) 464 = .ok (.iadd, 1) := by decide +kernel
theorem zd0_465 : decode (z_b 0) 465 = .ok (.iaload, 1) := by decide +kernel
theorem zd0_466 : decode (z_b 0) 466 = .ok (.aload_n 0, 1) := by decide +kernel
theorem zd0_467 : decode (z_b 0) 467 = .ok (.iload_n 3, 1) := by decide +kernel
theorem zd0_468 : decode (z_b 0) 468 = .ok (.iconst 2, 1) := by decide +kernel
theorem zd0_469 : decode (z_b 0) 469 = .ok (.iadd, 1) := by decide +kernel
theorem zd0_470 : decode (z_b 0) 470 = .ok (.iaload, 1) := by decide +kernel
theorem zd0_471 : decode (z_b 0) 471 = .ok (.aload_n 0, 1) := by decide +kernel
theorem zd0_472 : decode (z_b 0) 472 = .ok (.iload_n 3, 1) := by decide +kernel
theorem zd0_473 : decode (z_b 0) 473 = .ok (.iconst 3, 1) := by decide +kernel
theorem zd0_474 : decode (z_b 0) 474 = .ok (.iadd, 1) := by decide +kernel
theorem zd0_475 : decode (z_b 0) 475 = .ok (.iaload, 1) := by decide +kernel
theorem zcV0_48 : (z_find z_cV (z_oc 0) 48).map (·.1) = some (1, 3, [(12, 220)]) := by decide +kernel
theorem zd0_476 : decode (z_b 0) 476 = .ok (.invokevirtual 48, 3) := by decide +kernel
theorem zm220 : z_ml 220 = 9 := by decide +kernel
theorem zd220_0 : decode (z_b 220) 0 = .ok (.aload_n 0, 1) := by decide +kernel
theorem zd220_1 : decode (z_b 220) 1 = .ok (.iload_n 1, 1) := by decide +kernel
theorem zd220_2 : decode (z_b 220) 2 = .ok (.iload_n 2, 1) := by decide +kernel
theorem zd220_3 : decode (z_b 220) 3 = .ok (.iload_n 3, 1) := by decide +kernel
theorem zcV220_219 : (z_find z_cV (z_oc 220) 219).map (·.1) = some (1, 3, [(12, 214)]) := by decide +kernel
theorem zd220_4 : decode (z_b 220) 4 = .ok (.invokevirtual 219, 3) := by decide +kernel
theorem zd220_7 : decode (z_b 220) 7 = .ok (.ifCond .ne 5, 3) := by decide +kernel
theorem zd220_10 : decode (z_b 220) 10 = .ok (.iconst (-1), 1) := by decide +kernel
theorem zr220 : z_rt 220 = some (.int) := by decide +kernel
theorem zd220_11 : decode (z_b 220) 11 = .ok (.ireturn, 1) := by decide +kernel
theorem zd0_479 : decode (z_b 0) 479 = .ok (.if_icmp .eq 1296, 3) := by decide +kernel
theorem zd0_484 : decode (z_b 0) 484 = .ok (.aload_n 1, 1) := by decide +kernel
theorem zd0_485 : decode (z_b 0) 485 = .ok (.aload_n 0, 1) := by decide +kernel
theorem zd0_486 : decode (z_b 0) 486 = .ok (.iload_n 3, 1) := by decide +kernel
theorem zd0_487 : decode (z_b 0) 487 = .ok (.iconst 1, 1) := by decide +kernel
theorem zd0_488 : decode (z_b 0) 488 = .ok (.iadd, 1) := by decide +kernel
theorem zd0_489 : decode (z_b 0) 489 = .ok (.iaload, 1) := by decide +kernel
theorem zd0_490 : decode (z_b 0) 490 = .ok (.aload_n 0, 1) := by decide +kernel
theorem zd0_491 : decode (z_b 0) 491 = .ok (.iload_n 3, 1) := by decide +kernel
theorem zd0_492 : decode (z_b 0) 492 = .ok (.iconst 2, 1) := by decide +kernel
theorem zd0_493 : decode (z_b 0) 493 = .ok (.iadd, 1) := by decide +kernel
theorem zd0_494 : decode (z_b 0) 494 = .ok (.iaload, 1) := by decide +kernel
theorem zd0_495 : decode (z_b 0) 495 = .ok (.aload_n 0, 1) := by decide +kernel
theorem zd0_496 : decode (z_b 0) 496 = .ok (.iload_n 3, 1) := by decide +kernel
theorem zd0_497 : decode (z_b 0) 497 = .ok (.iconst 3, 1) := by decide +kernel
theorem zd0_498 : decode (z_b 0) 498 = .ok (.iadd, 1) := by decide +kernel
theorem zd0_499 : decode (z_b 0) 499 = .ok (.iaload, 1) := by decide +kernel
theorem zd0_500 : decode (z_b 0) 500 = .ok (.aload_n 0, 1) := by decide +kernel
theorem zd0_501 : decode (z_b 0) 501 = .ok (.iload_n 3, 1) := by decide +kernel
theorem zd0_502 : decode (z_b 0) 502 = .ok (.iconst 4, 1) := by decide +kernel
theorem zd0_503 : decode (z_b 0) 503 = .ok (.iadd, 1) := by decide +kernel
theorem zd0_504 : decode (z_b 0) 504 = .ok (.iaload, 1) := by decide +kernel
theorem zcV0_49 : (z_find z_cV (z_oc 0) 49).map (·.1) = some (1, 4, [(0, 52)]) := by decide +kernel
theorem zd0_505 : decode (z_b 0) 505 = .ok (.invokevirtual 49, 3) := by decide +kernel
theorem zm52 : z_ml 52 = 6 := by decide +kernel
theorem zd52_0 : decode (z_b 52) 0 = .ok (.aload_n 0, 1) := by decide +kernel
theorem zd52_1 : decode (z_b 52) 1 = .ok (.iload_n 1, 1) := by decide +kernel
theorem zcV52_85 : (z_find z_cV (z_oc 52) 85).map (·.1) = some (1, 1, [(0, 35)]) := by decide +kernel
theorem zd52_2 : decode (z_b 52) 2 = .ok (.invokevirtual 85, 3) := by decide +kernel
theorem zd52_5 : decode (z_b 52) 5 = .ok (.astore 5, 2) := by decide +kernel
theorem zd52_7 : decode (z_b 52) 7 = .ok (.aload 5, 2) := by decide +kernel
theorem zd52_9 : decode (z_b 52) 9 = .ok (.ifnull 28, 3) := by decide +kernel
theorem zd52_37 : decode (z_b 52) 37 = .ok (.iconst (-1), 1) := by decide +kernel
theorem zr52 : z_rt 52 = some (.int) := by decide +kernel
theorem zd52_38 : decode (z_b 52) 38 = .ok (.ireturn, 1) := by decide +kernel
theorem zd0_508 : decode (z_b 0) 508 = .ok (.aload_n 2, 1) := by decide +kernel
theorem zd0_509 : decode (z_b 0) 509 = .ok (.aload_n 0, 1) := by decide +kernel
theorem zd0_510 : decode (z_b 0) 510 = .ok (.iload_n 3, 1) := by decide +kernel
theorem zd0_511 : decode (z_b 0) 511 = .ok (.iconst 1, 1) := by decide +kernel
theorem zd0_512 : decode (z_b 0) 512 = .ok (.iadd, 1) := by decide +kernel
theorem zd0_513 : decode (z_b 0) 513 = .ok (.iaload, 1) := by decide +kernel
theorem zd0_514 : decode (z_b 0) 514 = .ok (.aload_n 0, 1) := by decide +kernel
theorem zd0_515 : decode (z_b 0) 515 = .ok (.iload_n 3, 1) := by decide +kernel
theorem zd0_516 : decode (z_b 0) 516 = .ok (.iconst 2, 1) := by decide +kernel
theorem zd0_517 : decode (z_b 0) 517 = .ok (.iadd, 1) := by decide +kernel
theorem zd0_518 : decode (z_b 0) 518 = .ok (.iaload, 1) := by decide +kernel
theorem zd0_519 : decode (z_b 0) 519 = .ok (.aload_n 0, 1) := by decide +kernel
theorem zd0_520 : decode (z_b 0) 520 = .ok (.iload_n 3, 1) := by decide +kernel
theorem zd0_521 : decode (z_b 0) 521 = .ok (.iconst 3, 1) := by decide +kernel
theorem zd0_522 : decode (z_b 0) 522 = .ok (.iadd, 1) := by decide +kernel
theorem zd0_523 : decode (z_b 0) 523 = .ok (.iaload, 1) := by decide +kernel
theorem zd0_524 : decode (z_b 0) 524 = .ok (.aload_n 0, 1) := by decide +kernel
theorem zd0_525 : decode (z_b 0) 525 = .ok (.iload_n 3, 1) := by decide +kernel
theorem zd0_526 : decode (z_b 0) 526 = .ok (.iconst 4, 1) := by decide +kernel
theorem zd0_527 : decode (z_b 0) 527 = .ok (.iadd, 1) := by decide +kernel
theorem zd0_528 : decode (z_b 0) 528 = .ok (.iaload, 1) := by decide +kernel
theorem zcV0_52 : (z_find z_cV (z_oc 0) 52).map (·.1) = some (1, 4, [(12, 221)]) := by decide +kernel
theorem zd0_529 : decode (z_b 0) 529 = .ok (.invokevirtual 52, 3) := by decide +kernel
theorem zm221 : z_ml 221 = 6 := by decide +kernel
theorem zd221_0 : decode (z_b 221) 0 = .ok (.aload_n 0, 1) := by decide +kernel
theorem zd221_1 : decode (z_b 221) 1 = .ok (.iload_n 1, 1) := by decide +kernel
theorem zd221_2 : decode (z_b 221) 2 = .ok (.iload_n 3, 1) := by decide +kernel
theorem zd221_3 : decode (z_b 221) 3 = .ok (.iload 4, 2) := by decide +kernel
theorem zcV221_219 : (z_find z_cV (z_oc 221) 219).map (·.1) = some (1, 3, [(12, 214)]) := by decide +kernel
theorem zd221_5 : decode (z_b 221) 5 = .ok (.invokevirtual 219, 3) := by decide +kernel
theorem zd221_8 : decode (z_b 221) 8 = .ok (.ifCond .eq 15, 3) := by decide +kernel
theorem zd221_23 : decode (z_b 221) 23 = .ok (.iconst (-1), 1) := by decide +kernel
theorem zr221 : z_rt 221 = some (.int) := by decide +kernel
theorem zd221_24 : decode (z_b 221) 24 = .ok (.ireturn, 1) := by decide +kernel
theorem zd0_532 : decode (z_b 0) 532 = .ok (.if_icmp .eq 1243, 3) := by decide +kernel
theorem zd0_537 : decode (z_b 0) 537 = .ok (.aload_n 1, 1) := by decide +kernel
theorem zd0_538 : decode (z_b 0) 538 = .ok (.aload_n 0, 1) := by decide +kernel
theorem zd0_539 : decode (z_b 0) 539 = .ok (.iload_n 3, 1) := by decide +kernel
theorem zd0_540 : decode (z_b 0) 540 = .ok (.iconst 1, 1) := by decide +kernel
theorem zd0_541 : decode (z_b 0) 541 = .ok (.iadd, 1) := by decide +kernel
theorem zd0_542 : decode (z_b 0) 542 = .ok (.iaload, 1) := by decide +kernel
theorem zd0_543 : decode (z_b 0) 543 = .ok (.aload_n 0, 1) := by decide +kernel
theorem zd0_544 : decode (z_b 0) 544 = .ok (.iload_n 3, 1) := by decide +kernel
theorem zd0_545 : decode (z_b 0) 545 = .ok (.iconst 2, 1) := by decide +kernel
theorem zd0_546 : decode (z_b 0) 546 = .ok (.iadd, 1) := by decide +kernel
theorem zd0_547 : decode (z_b 0) 547 = .ok (.iaload, 1) := by decide +kernel
theorem zd0_548 : decode (z_b 0) 548 = .ok (.aload_n 0, 1) := by decide +kernel
theorem zd0_549 : decode (z_b 0) 549 = .ok (.iload_n 3, 1) := by decide +kernel
theorem zd0_550 : decode (z_b 0) 550 = .ok (.iconst 3, 1) := by decide +kernel
theorem zd0_551 : decode (z_b 0) 551 = .ok (.iadd, 1) := by decide +kernel
theorem zd0_552 : decode (z_b 0) 552 = .ok (.iaload, 1) := by decide +kernel
theorem zd0_553 : decode (z_b 0) 553 = .ok (.aload_n 0, 1) := by decide +kernel
theorem zd0_554 : decode (z_b 0) 554 = .ok (.iload_n 3, 1) := by decide +kernel
theorem zd0_555 : decode (z_b 0) 555 = .ok (.iconst 4, 1) := by decide +kernel
theorem zd0_556 : decode (z_b 0) 556 = .ok (.iadd, 1) := by decide +kernel
theorem zd0_557 : decode (z_b 0) 557 = .ok (.iaload, 1) := by decide +kernel
theorem zcV0_53 : (z_find z_cV (z_oc 0) 53).map (·.1) = some (1, 4, [(0, 55)]) := by decide +kernel
theorem zd0_558 : decode (z_b 0) 558 = .ok (.invokevirtual 53, 3) := by decide +kernel
theorem zm55 : z_ml 55 = 6 := by decide +kernel
theorem zd55_0 : decode (z_b 55) 0 = .ok (.aload_n 0, 1) := by decide +kernel
theorem zd55_1 : decode (z_b 55) 1 = .ok (.iload_n 1, 1) := by decide +kernel
theorem zcV55_85 : (z_find z_cV (z_oc 55) 85).map (·.1) = some (1, 1, [(0, 35)]) := by decide +kernel
theorem zd55_2 : decode (z_b 55) 2 = .ok (.invokevirtual 85, 3) := by decide +kernel
theorem zd55_5 : decode (z_b 55) 5 = .ok (.astore 5, 2) := by decide +kernel
theorem zd55_7 : decode (z_b 55) 7 = .ok (.aload 5, 2) := by decide +kernel
theorem zd55_9 : decode (z_b 55) 9 = .ok (.ifnull 26, 3) := by decide +kernel
theorem zd55_35 : decode (z_b 55) 35 = .ok (.iconst (-1), 1) := by decide +kernel
theorem zr55 : z_rt 55 = some (.int) := by decide +kernel
theorem zd55_36 : decode (z_b 55) 36 = .ok (.ireturn, 1) := by decide +kernel
theorem zd0_561 : decode (z_b 0) 561 = .ok (.aload_n 2, 1) := by decide +kernel
theorem zd0_562 : decode (z_b 0) 562 = .ok (.aload_n 0, 1) := by decide +kernel
theorem zd0_563 : decode (z_b 0) 563 = .ok (.iload_n 3, 1) := by decide +kernel
theorem zd0_564 : decode (z_b 0) 564 = .ok (.iconst 1, 1) := by decide +kernel
theorem zd0_565 : decode (z_b 0) 565 = .ok (.iadd, 1) := by decide +kernel
theorem zd0_566 : decode (z_b 0) 566 = .ok (.iaload, 1) := by decide +kernel
theorem zd0_567 : decode (z_b 0) 567 = .ok (.aload_n 0, 1) := by decide +kernel
theorem zd0_568 : decode (z_b 0) 568 = .ok (.iload_n 3, 1) := by decide +kernel
theorem zd0_569 : decode (z_b 0) 569 = .ok (.iconst 2, 1) := by decide +kernel
theorem zd0_570 : decode (z_b 0) 570 = .ok (.iadd, 1) := by decide +kernel
theorem zd0_571 : decode (z_b 0) 571 = .ok (.iaload, 1) := by decide +kernel
theorem zd0_572 : decode (z_b 0) 572 = .ok (.aload_n 0, 1) := by decide +kernel
theorem zd0_573 : decode (z_b 0) 573 = .ok (.iload_n 3, 1) := by decide +kernel
theorem zd0_574 : decode (z_b 0) 574 = .ok (.iconst 3, 1) := by decide +kernel
theorem zd0_575 : decode (z_b 0) 575 = .ok (.iadd, 1) := by decide +kernel
theorem zd0_576 : decode (z_b 0) 576 = .ok (.iaload, 1) := by decide +kernel
theorem zd0_577 : decode (z_b 0) 577 = .ok (.aload_n 0, 1) := by decide +kernel
theorem zd0_578 : decode (z_b 0) 578 = .ok (.iload_n 3, 1) := by decide +kernel
theorem zd0_579 : decode (z_b 0) 579 = .ok (.iconst 4, 1) := by decide +kernel
theorem zd0_580 : decode (z_b 0) 580 = .ok (.iadd, 1) := by decide +kernel
theorem zd0_581 : decode (z_b 0) 581 = .ok (.iaload, 1) := by decide +kernel
theorem zcV0_56 : (z_find z_cV (z_oc 0) 56).map (·.1) = some (1, 4, [(12, 222)]) := by decide +kernel
theorem zd0_582 : decode (z_b 0) 582 = .ok (.invokevirtual 56, 3) := by decide +kernel
theorem zm222 : z_ml 222 = 5 := by decide +kernel
theorem zd222_0 : decode (z_b 222) 0 = .ok (.aload_n 0, 1) := by decide +kernel
theorem zd222_1 : decode (z_b 222) 1 = .ok (.iload_n 1, 1) := by decide +kernel
theorem zd222_2 : decode (z_b 222) 2 = .ok (.iload_n 2, 1) := by decide +kernel
theorem zcV222_234 : (z_find z_cV (z_oc 222) 234).map (·.1) = some (1, 2, [(12, 223)]) := by decide +kernel
theorem zd222_3 : decode (z_b 222) 3 = .ok (.invokevirtual 234, 3) := by decide +kernel
theorem zm223 : z_ml 223 = 3 := by decide +kernel
theorem zd223_0 : decode (z_b 223) 0 = .ok (.aload_n 0, 1) := by decide +kernel
theorem zd223_1 : decode (z_b 223) 1 = .ok (.iload_n 1, 1) := by decide +kernel
theorem zcV223_209 : (z_find z_cV (z_oc 223) 209).map (·.1) = some (1, 1, [(12, 209)]) := by decide +kernel
theorem zd223_2 : decode (z_b 223) 2 = .ok (.invokevirtual 209, 3) := by decide +kernel
theorem zd223_5 : decode (z_b 223) 5 = .ok (.ifCond .eq 21, 3) := by decide +kernel
theorem zd223_26 : decode (z_b 223) 26 = .ok (.iconst 0, 1) := by decide +kernel
theorem zr223 : z_rt 223 = some (.boolean) := by decide +kernel
theorem zd223_27 : decode (z_b 223) 27 = .ok (.ireturn, 1) := by decide +kernel
theorem zd222_6 : decode (z_b 222) 6 = .ok (.ifCond .eq 14, 3) := by decide +kernel
theorem zd222_20 : decode (z_b 222) 20 = .ok (.iconst (-1), 1) := by decide +kernel
theorem zr222 : z_rt 222 = some (.int) := by decide +kernel
theorem zd222_21 : decode (z_b 222) 21 = .ok (.ireturn, 1) := by decide +kernel
theorem zd0_585 : decode (z_b 0) 585 = .ok (.if_icmp .eq 1190, 3) := by decide +kernel
theorem zd0_590 : decode (z_b 0) 590 = .ok (.aload_n 1, 1) := by decide +kernel
theorem zd0_591 : decode (z_b 0) 591 = .ok (.aload_n 0, 1) := by decide +kernel
theorem zd0_592 : decode (z_b 0) 592 = .ok (.iload_n 3, 1) := by decide +kernel
theorem zd0_593 : decode (z_b 0) 593 = .ok (.iconst 1, 1) := by decide +kernel
theorem zd0_594 : decode (z_b 0) 594 = .ok (.iadd, 1) := by decide +kernel
theorem zd0_595 : decode (z_b 0) 595 = .ok (.iaload, 1) := by decide +kernel
theorem zd0_596 : decode (z_b 0) 596 = .ok (.aload_n 0, 1) := by decide +kernel
theorem zd0_597 : decode (z_b 0) 597 = .ok (.iload_n 3, 1) := by decide +kernel
theorem zd0_598 : decode (z_b 0) 598 = .ok (.iconst 2, 1) := by decide +kernel
theorem zd0_599 : decode (z_b 0) 599 = .ok (.iadd, 1) := by decide +kernel
theorem zd0_600 : decode (z_b 0) 600 = .ok (.iaload, 1) := by decide +kernel
theorem zd0_601 : decode (z_b 0) 601 = .ok (.aload_n 0, 1) := by decide +kernel
theorem zd0_602 : decode (z_b 0) 602 = .ok (.iload_n 3, 1) := by decide +kernel
theorem zd0_603 : decode (z_b 0) 603 = .ok (.iconst 3, 1) := by decide +kernel
theorem zd0_604 : decode (z_b 0) 604 = .ok (.iadd, 1) := by decide +kernel
theorem zd0_605 : decode (z_b 0) 605 = .ok (.iaload, 1) := by decide +kernel
theorem zd0_606 : decode (z_b 0) 606 = .ok (.aload_n 0, 1) := by decide +kernel
theorem zd0_607 : decode (z_b 0) 607 = .ok (.iload_n 3, 1) := by decide +kernel
theorem zd0_608 : decode (z_b 0) 608 = .ok (.iconst 4, 1) := by decide +kernel
theorem zd0_609 : decode (z_b 0) 609 = .ok (.iadd, 1) := by decide +kernel
theorem zd0_610 : decode (z_b 0) 610 = .ok (.iaload, 1) := by decide +kernel
theorem zcV0_57 : (z_find z_cV (z_oc 0) 57).map (·.1) = some (1, 4, [(0, 57)]) := by decide +kernel
theorem zd0_611 : decode (z_b 0) 611 = .ok (.invokevirtual 57, 3) := by decide +kernel
theorem zm57 : z_ml 57 = 7 := by decide +kernel
theorem zd57_0 : decode (z_b 57) 0 = .ok (.aload_n 0, 1) := by decide +kernel
theorem zd57_1 : decode (z_b 57) 1 = .ok (.iload_n 1, 1) := by decide +kernel
theorem zcV57_85 : (z_find z_cV (z_oc 57) 85).map (·.1) = some (1, 1, [(0, 35)]) := by decide +kernel
theorem zd57_2 : decode (z_b 57) 2 = .ok (.invokevirtual 85, 3) := by decide +kernel
theorem zd57_5 : decode (z_b 57) 5 = .ok (.astore 5, 2) := by decide +kernel
theorem zd57_7 : decode (z_b 57) 7 = .ok (.aload 5, 2) := by decide +kernel
theorem zd57_9 : decode (z_b 57) 9 = .ok (.ifnull 19, 3) := by decide +kernel
theorem zd57_28 : decode (z_b 57) 28 = .ok (.iconst (-1), 1) := by decide +kernel
theorem zr57 : z_rt 57 = some (.int) := by decide +kernel
theorem zd57_29 : decode (z_b 57) 29 = .ok (.ireturn, 1) := by decide +kernel
theorem zd0_614 : decode (z_b 0) 614 = .ok (.aload_n 2, 1) := by decide +kernel
theorem zd0_615 : decode (z_b 0) 615 = .ok (.aload_n 0, 1) := by decide +kernel
theorem zd0_616 : decode (z_b 0) 616 = .ok (.iload_n 3, 1) := by decide +kernel
theorem zd0_617 : decode (z_b 0) 617 = .ok (.iconst 1, 1) := by decide +kernel
theorem zd0_618 : decode (z_b 0) 618 = .ok (.iadd, 1) := by decide +kernel
theorem zd0_619 : decode (z_b 0) 619 = .ok (.iaload, 1) := by decide +kernel
theorem zd0_620 : decode (z_b 0) 620 = .ok (.aload_n 0, 1) := by decide +kernel
theorem zd0_621 : decode (z_b 0) 621 = .ok (.iload_n 3, 1) := by decide +kernel
theorem zd0_622 : decode (z_b 0) 622 = .ok (.iconst 2, 1) := by decide +kernel
theorem zd0_623 : decode (z_b 0) 623 = .ok (.iadd, 1) := by decide +kernel
theorem zd0_624 : decode (z_b 0) 624 = .ok (.iaload, 1) := by decide +kernel
theorem zd0_625 : decode (z_b 0) 625 = .ok (.aload_n 0, 1) := by decide +kernel
theorem zd0_626 : decode (z_b 0) 626 = .ok (.iload_n 3, 1) := by decide +kernel
theorem zd0_627 : decode (z_b 0) 627 = .ok (.iconst 3, 1) := by decide +kernel
theorem zd0_628 : decode (z_b 0) 628 = .ok (.iadd, 1) := by decide +kernel
theorem zd0_629 : decode (z_b 0) 629 = .ok (.iaload, 1) := by decide +kernel
theorem zd0_630 : decode (z_b 0) 630 = .ok (.aload_n 0, 1) := by decide +kernel
theorem zd0_631 : decode (z_b 0) 631 = .ok (.iload_n 3, 1) := by decide +kernel
theorem zd0_632 : decode (z_b 0) 632 = .ok (.iconst 4, 1) := by decide +kernel
theorem zd0_633 : decode (z_b 0) 633 = .ok (.iadd, 1) := by decide +kernel
theorem zd0_634 : decode (z_b 0) 634 = .ok (.iaload, 1) := by decide +kernel
theorem zcV0_60 : (z_find z_cV (z_oc 0) 60).map (·.1) = some (1, 4, [(12, 224)]) := by decide +kernel
theorem zd0_635 : decode (z_b 0) 635 = .ok (.invokevirtual 60, 3) := by decide +kernel
theorem zm224 : z_ml 224 = 12 := by decide +kernel
theorem zd224_0 : decode (z_b 224) 0 = .ok (.aload_n 0, 1) := by decide +kernel
theorem zd224_1 : decode (z_b 224) 1 = .ok (.iload_n 1, 1) := by decide +kernel
theorem zd224_2 : decode (z_b 224) 2 = .ok (.iload_n 2, 1) := by decide +kernel
theorem zcV224_234 : (z_find z_cV (z_oc 224) 234).map (·.1) = some (1, 2, [(12, 223)]) := by decide +kernel
theorem zd224_3 : decode (z_b 224) 3 = .ok (.invokevirtual 234, 3) := by decide +kernel
theorem zd224_6 : decode (z_b 224) 6 = .ok (.ifCond .eq 10, 3) := by decide +kernel
theorem zd224_16 : decode (z_b 224) 16 = .ok (.iconst (-1), 1) := by decide +kernel
theorem zr224 : z_rt 224 = some (.int) := by decide +kernel
theorem zd224_17 : decode (z_b 224) 17 = .ok (.ireturn, 1) := by decide +kernel
theorem zd0_638 : decode (z_b 0) 638 = .ok (.if_icmp .eq 1137, 3) := by decide +kernel
theorem zd0_643 : decode (z_b 0) 643 = .ok (.aload_n 1, 1) := by decide +kernel
theorem zd0_644 : decode (z_b 0) 644 = .ok (.aload_n 0, 1) := by decide +kernel
theorem zd0_645 : decode (z_b 0) 645 = .ok (.iload_n 3, 1) := by decide +kernel
theorem zd0_646 : decode (z_b 0) 646 = .ok (.iconst 1, 1) := by decide +kernel
theorem zd0_647 : decode (z_b 0) 647 = .ok (.iadd, 1) := by decide +kernel
theorem zd0_648 : decode (z_b 0) 648 = .ok (.iaload, 1) := by decide +kernel
theorem zcV0_61 : (z_find z_cV (z_oc 0) 61).map (·.1) = some (1, 1, [(0, 60)]) := by decide +kernel
theorem zd0_649 : decode (z_b 0) 649 = .ok (.invokevirtual 61, 3) := by decide +kernel
theorem zm60 : z_ml 60 = 4 := by decide +kernel
theorem zd60_0 : decode (z_b 60) 0 = .ok (.aload_n 0, 1) := by decide +kernel
theorem zd60_1 : decode (z_b 60) 1 = .ok (.iload_n 1, 1) := by decide +kernel
theorem zcV60_85 : (z_find z_cV (z_oc 60) 85).map (·.1) = some (1, 1, [(0, 35)]) := by decide +kernel
theorem zd60_2 : decode (z_b 60) 2 = .ok (.invokevirtual 85, 3) := by decide +kernel
theorem zd60_5 : decode (z_b 60) 5 = .ok (.astore_n 2, 1) := by decide +kernel
theorem zd60_6 : decode (z_b 60) 6 = .ok (.aload_n 2, 1) := by decide +kernel
theorem zd60_7 : decode (z_b 60) 7 = .ok (.ifnonnull 5, 3) := by decide +kernel
theorem zd60_10 : decode (z_b 60) 10 = .ok (.iconst (-1), 1) := by decide +kernel
theorem zr60 : z_rt 60 = some (.int) := by decide +kernel
theorem zd60_11 : decode (z_b 60) 11 = .ok (.ireturn, 1) := by decide +kernel
theorem zd0_652 : decode (z_b 0) 652 = .ok (.aload_n 2, 1) := by decide +kernel
theorem zd0_653 : decode (z_b 0) 653 = .ok (.aload_n 0, 1) := by decide +kernel
theorem zd0_654 : decode (z_b 0) 654 = .ok (.iload_n 3, 1) := by decide +kernel
theorem zd0_655 : decode (z_b 0) 655 = .ok (.iconst 1, 1) := by decide +kernel
theorem zd0_656 : decode (z_b 0) 656 = .ok (.iadd, 1) := by decide +kernel
theorem zd0_657 : decode (z_b 0) 657 = .ok (.iaload, 1) := by decide +kernel
theorem zcV0_65 : (z_find z_cV (z_oc 0) 65).map (·.1) = some (1, 1, [(12, 226)]) := by decide +kernel
theorem zd0_658 : decode (z_b 0) 658 = .ok (.invokevirtual 65, 3) := by decide +kernel
theorem zm226 : z_ml 226 = 3 := by decide +kernel
theorem zd226_0 : decode (z_b 226) 0 = .ok (.aload_n 0, 1) := by decide +kernel
theorem zd226_1 : decode (z_b 226) 1 = .ok (.iload_n 1, 1) := by decide +kernel
theorem zcV226_209 : (z_find z_cV (z_oc 226) 209).map (·.1) = some (1, 1, [(12, 209)]) := by decide +kernel
theorem zd226_2 : decode (z_b 226) 2 = .ok (.invokevirtual 209, 3) := by decide +kernel
theorem zd226_5 : decode (z_b 226) 5 = .ok (.ifCond .ne 5, 3) := by decide +kernel
theorem zd226_8 : decode (z_b 226) 8 = .ok (.iconst (-1), 1) := by decide +kernel
theorem zr226 : z_rt 226 = some (.int) := by decide +kernel
theorem zd226_9 : decode (z_b 226) 9 = .ok (.ireturn, 1) := by decide +kernel
theorem zd0_661 : decode (z_b 0) 661 = .ok (.if_icmp .eq 1114, 3) := by decide +kernel
theorem zd0_666 : decode (z_b 0) 666 = .ok (.aload_n 1, 1) := by decide +kernel
theorem zd0_667 : decode (z_b 0) 667 = .ok (.aload_n 0, 1) := by decide +kernel
theorem zd0_668 : decode (z_b 0) 668 = .ok (.iload_n 3, 1) := by decide +kernel
theorem zd0_669 : decode (z_b 0) 669 = .ok (.iconst 1, 1) := by decide +kernel
theorem zd0_670 : decode (z_b 0) 670 = .ok (.iadd, 1) := by decide +kernel
theorem zd0_671 : decode (z_b 0) 671 = .ok (.iaload, 1) := by decide +kernel
theorem zd0_672 : decode (z_b 0) 672 = .ok (.aload_n 0, 1) := by decide +kernel
theorem zd0_673 : decode (z_b 0) 673 = .ok (.iload_n 3, 1) := by decide +kernel
theorem zd0_674 : decode (z_b 0) 674 = .ok (.iconst 2, 1) := by decide +kernel
theorem zd0_675 : decode (z_b 0) 675 = .ok (.iadd, 1) := by decide +kernel
theorem zd0_676 : decode (z_b 0) 676 = .ok (.iaload, 1) := by decide +kernel
theorem zd0_677 : decode (z_b 0) 677 = .ok (.aload_n 0, 1) := by decide +kernel
theorem zd0_678 : decode (z_b 0) 678 = .ok (.iload_n 3, 1) := by decide +kernel
theorem zd0_679 : decode (z_b 0) 679 = .ok (.iconst 3, 1) := by decide +kernel
theorem zd0_680 : decode (z_b 0) 680 = .ok (.iadd, 1) := by decide +kernel
theorem zd0_681 : decode (z_b 0) 681 = .ok (.iaload, 1) := by decide +kernel
theorem zcV0_66 : (z_find z_cV (z_oc 0) 66).map (·.1) = some (1, 3, [(0, 62)]) := by decide +kernel
theorem zd0_682 : decode (z_b 0) 682 = .ok (.invokevirtual 66, 3) := by decide +kernel
theorem zm62 : z_ml 62 = 5 := by decide +kernel
theorem zd62_0 : decode (z_b 62) 0 = .ok (.aload_n 0, 1) := by decide +kernel
theorem zd62_1 : decode (z_b 62) 1 = .ok (.iload_n 1, 1) := by decide +kernel
theorem zcV62_85 : (z_find z_cV (z_oc 62) 85).map (·.1) = some (1, 1, [(0, 35)]) := by decide +kernel
theorem zd62_2 : decode (z_b 62) 2 = .ok (.invokevirtual 85, 3) := by decide +kernel
theorem zd62_5 : decode (z_b 62) 5 = .ok (.astore 4, 2) := by decide +kernel
theorem zd62_7 : decode (z_b 62) 7 = .ok (.aload 4, 2) := by decide +kernel
theorem zd62_9 : decode (z_b 62) 9 = .ok (.ifnull 12, 3) := by decide +kernel
theorem zd62_21 : decode (z_b 62) 21 = .ok (.iconst (-1), 1) := by decide +kernel
theorem zr62 : z_rt 62 = some (.int) := by decide +kernel
theorem zd62_22 : decode (z_b 62) 22 = .ok (.ireturn, 1) := by decide +kernel
theorem zd0_685 : decode (z_b 0) 685 = .ok (.aload_n 2, 1) := by decide +kernel
theorem zd0_686 : decode (z_b 0) 686 = .ok (.aload_n 0, 1) := by decide +kernel
theorem zd0_687 : decode (z_b 0) 687 = .ok (.iload_n 3, 1) := by decide +kernel
theorem zd0_688 : decode (z_b 0) 688 = .ok (.iconst 1, 1) := by decide +kernel
theorem zd0_689 : decode (z_b 0) 689 = .ok (.iadd, 1) := by decide +kernel
theorem zd0_690 : decode (z_b 0) 690 = .ok (.iaload, 1) := by decide +kernel
theorem zd0_691 : decode (z_b 0) 691 = .ok (.aload_n 0, 1) := by decide +kernel
theorem zd0_692 : decode (z_b 0) 692 = .ok (.iload_n 3, 1) := by decide +kernel
theorem zd0_693 : decode (z_b 0) 693 = .ok (.iconst 2, 1) := by decide +kernel
theorem zd0_694 : decode (z_b 0) 694 = .ok (.iadd, 1) := by decide +kernel
theorem zd0_695 : decode (z_b 0) 695 = .ok (.iaload, 1) := by decide +kernel
theorem zd0_696 : decode (z_b 0) 696 = .ok (.aload_n 0, 1) := by decide +kernel
theorem zd0_697 : decode (z_b 0) 697 = .ok (.iload_n 3, 1) := by decide +kernel
theorem zd0_698 : decode (z_b 0) 698 = .ok (.iconst 3, 1) := by decide +kernel
theorem zd0_699 : decode (z_b 0) 699 = .ok (.iadd, 1) := by decide +kernel
theorem zd0_700 : decode (z_b 0) 700 = .ok (.iaload, 1) := by decide +kernel
theorem zcV0_69 : (z_find z_cV (z_oc 0) 69).map (·.1) = some (1, 3, [(12, 227)]) := by decide +kernel
theorem zd0_701 : decode (z_b 0) 701 = .ok (.invokevirtual 69, 3) := by decide +kernel
theorem zm227 : z_ml 227 = 5 := by decide +kernel
theorem zd227_0 : decode (z_b 227) 0 = .ok (.aload_n 0, 1) := by decide +kernel
theorem zd227_1 : decode (z_b 227) 1 = .ok (.iload_n 1, 1) := by decide +kernel
theorem zd227_2 : decode (z_b 227) 2 = .ok (.iload_n 2, 1) := by decide +kernel
theorem zcV227_234 : (z_find z_cV (z_oc 227) 234).map (·.1) = some (1, 2, [(12, 223)]) := by decide +kernel
theorem zd227_3 : decode (z_b 227) 3 = .ok (.invokevirtual 234, 3) := by decide +kernel
theorem zd227_6 : decode (z_b 227) 6 = .ok (.ifCond .eq 15, 3) := by decide +kernel
theorem zd227_21 : decode (z_b 227) 21 = .ok (.iconst (-1), 1) := by decide +kernel
theorem zr227 : z_rt 227 = some (.int) := by decide +kernel
theorem zd227_22 : decode (z_b 227) 22 = .ok (.ireturn, 1) := by decide +kernel
theorem zd0_704 : decode (z_b 0) 704 = .ok (.if_icmp .eq 1071, 3) := by decide +kernel
theorem zd0_709 : decode (z_b 0) 709 = .ok (.aload_n 1, 1) := by decide +kernel
theorem zd0_710 : decode (z_b 0) 710 = .ok (.aload_n 0, 1) := by decide +kernel
theorem zd0_711 : decode (z_b 0) 711 = .ok (.iload_n 3, 1) := by decide +kernel
theorem zd0_712 : decode (z_b 0) 712 = .ok (.iconst 1, 1) := by decide +kernel
theorem zd0_713 : decode (z_b 0) 713 = .ok (.iadd, 1) := by decide +kernel
theorem zd0_714 : decode (z_b 0) 714 = .ok (.iaload, 1) := by decide +kernel
theorem zd0_715 : decode (z_b 0) 715 = .ok (.aload_n 0, 1) := by decide +kernel
theorem zd0_716 : decode (z_b 0) 716 = .ok (.iload_n 3, 1) := by decide +kernel
theorem zd0_717 : decode (z_b 0) 717 = .ok (.iconst 2, 1) := by decide +kernel
theorem zd0_718 : decode (z_b 0) 718 = .ok (.iadd, 1) := by decide +kernel
theorem zd0_719 : decode (z_b 0) 719 = .ok (.iaload, 1) := by decide +kernel
theorem zd0_720 : decode (z_b 0) 720 = .ok (.aload_n 0, 1) := by decide +kernel
theorem zd0_721 : decode (z_b 0) 721 = .ok (.iload_n 3, 1) := by decide +kernel
theorem zd0_722 : decode (z_b 0) 722 = .ok (.iconst 3, 1) := by decide +kernel
theorem zd0_723 : decode (z_b 0) 723 = .ok (.iadd, 1) := by decide +kernel
theorem zd0_724 : decode (z_b 0) 724 = .ok (.iaload, 1) := by decide +kernel
theorem zcV0_70 : (z_find z_cV (z_oc 0) 70).map (·.1) = some (1, 3, [(0, 63)]) := by decide +kernel
theorem zd0_725 : decode (z_b 0) 725 = .ok (.invokevirtual 70, 3) := by decide +kernel
theorem zm63 : z_ml 63 = 5 := by decide +kernel
theorem zd63_0 : decode (z_b 63) 0 = .ok (.aload_n 0, 1) := by decide +kernel
theorem zd63_1 : decode (z_b 63) 1 = .ok (.iload_n 1, 1) := by decide +kernel
theorem zcV63_85 : (z_find z_cV (z_oc 63) 85).map (·.1) = some (1, 1, [(0, 35)]) := by decide +kernel
theorem zd63_2 : decode (z_b 63) 2 = .ok (.invokevirtual 85, 3) := by decide +kernel
theorem zd63_5 : decode (z_b 63) 5 = .ok (.astore 4, 2) := by decide +kernel
theorem zd63_7 : decode (z_b 63) 7 = .ok (.aload 4, 2) := by decide +kernel
theorem zd63_9 : decode (z_b 63) 9 = .ok (.ifnull 22, 3) := by decide +kernel
theorem zd63_31 : decode (z_b 63) 31 = .ok (.iconst (-1), 1) := by decide +kernel
theorem zr63 : z_rt 63 = some (.int) := by decide +kernel
theorem zd63_32 : decode (z_b 63) 32 = .ok (.ireturn, 1) := by decide +kernel
theorem zd0_728 : decode (z_b 0) 728 = .ok (.aload_n 2, 1) := by decide +kernel
theorem zd0_729 : decode (z_b 0) 729 = .ok (.aload_n 0, 1) := by decide +kernel
theorem zd0_730 : decode (z_b 0) 730 = .ok (.iload_n 3, 1) := by decide +kernel
theorem zd0_731 : decode (z_b 0) 731 = .ok (.iconst 1, 1) := by decide +kernel
theorem zd0_732 : decode (z_b 0) 732 = .ok (.iadd, 1) := by decide +kernel
theorem zd0_733 : decode (z_b 0) 733 = .ok (.iaload, 1) := by decide +kernel
theorem zd0_734 : decode (z_b 0) 734 = .ok (.aload_n 0, 1) := by decide +kernel
theorem zd0_735 : decode (z_b 0) 735 = .ok (.iload_n 3, 1) := by decide +kernel
theorem zd0_736 : decode (z_b 0) 736 = .ok (.iconst 2, 1) := by decide +kernel
theorem zd0_737 : decode (z_b 0) 737 = .ok (.iadd, 1) := by decide +kernel
theorem zd0_738 : decode (z_b 0) 738 = .ok (.iaload, 1) := by decide +kernel
theorem zd0_739 : decode (z_b 0) 739 = .ok (.aload_n 0, 1) := by decide +kernel
theorem zd0_740 : decode (z_b 0) 740 = .ok (.iload_n 3, 1) := by decide +kernel
theorem zd0_741 : decode (z_b 0) 741 = .ok (.iconst 3, 1) := by decide +kernel
theorem zd0_742 : decode (z_b 0) 742 = .ok (.iadd, 1) := by decide +kernel
theorem zd0_743 : decode (z_b 0) 743 = .ok (.iaload, 1) := by decide +kernel
theorem zcV0_73 : (z_find z_cV (z_oc 0) 73).map (·.1) = some (1, 3, [(12, 228)]) := by decide +kernel
theorem zd0_744 : decode (z_b 0) 744 = .ok (.invokevirtual 73, 3) := by decide +kernel
theorem zm228 : z_ml 228 = 4 := by decide +kernel
theorem zd228_0 : decode (z_b 228) 0 = .ok (.aload_n 0, 1) := by decide +kernel
theorem zd228_1 : decode (z_b 228) 1 = .ok (.iload_n 1, 1) := by decide +kernel
theorem zcV228_209 : (z_find z_cV (z_oc 228) 209).map (·.1) = some (1, 1, [(12, 209)]) := by decide +kernel
theorem zd228_2 : decode (z_b 228) 2 = .ok (.invokevirtual 209, 3) := by decide +kernel
theorem zd228_5 : decode (z_b 228) 5 = .ok (.ifCond .eq 22, 3) := by decide +kernel
theorem zd228_27 : decode (z_b 228) 27 = .ok (.iconst (-1), 1) := by decide +kernel
theorem zr228 : z_rt 228 = some (.int) := by decide +kernel
theorem zd228_28 : decode (z_b 228) 28 = .ok (.ireturn, 1) := by decide +kernel
theorem zd0_747 : decode (z_b 0) 747 = .ok (.if_icmp .eq 1028, 3) := by decide +kernel
theorem zd0_752 : decode (z_b 0) 752 = .ok (.aload_n 1, 1) := by decide +kernel
theorem zd0_753 : decode (z_b 0) 753 = .ok (.aload_n 0, 1) := by decide +kernel
theorem zd0_754 : decode (z_b 0) 754 = .ok (.iload_n 3, 1) := by decide +kernel
theorem zd0_755 : decode (z_b 0) 755 = .ok (.iconst 1, 1) := by decide +kernel
theorem zd0_756 : decode (z_b 0) 756 = .ok (.iadd, 1) := by decide +kernel
theorem zd0_757 : decode (z_b 0) 757 = .ok (.iaload, 1) := by decide +kernel
theorem zd0_758 : decode (z_b 0) 758 = .ok (.aload_n 0, 1) := by decide +kernel
theorem zd0_759 : decode (z_b 0) 759 = .ok (.iload_n 3, 1) := by decide +kernel
theorem zd0_760 : decode (z_b 0) 760 = .ok (.iconst 2, 1) := by decide +kernel
theorem zd0_761 : decode (z_b 0) 761 = .ok (.iadd, 1) := by decide +kernel
theorem zd0_762 : decode (z_b 0) 762 = .ok (.iaload, 1) := by decide +kernel
theorem zcV0_74 : (z_find z_cV (z_oc 0) 74).map (·.1) = some (1, 2, [(0, 66)]) := by decide +kernel
theorem zd0_763 : decode (z_b 0) 763 = .ok (.invokevirtual 74, 3) := by decide +kernel
theorem zm66 : z_ml 66 = 4 := by decide +kernel
theorem zd66_0 : decode (z_b 66) 0 = .ok (.aload_n 0, 1) := by decide +kernel
theorem zd66_1 : decode (z_b 66) 1 = .ok (.iload_n 1, 1) := by decide +kernel
theorem zcV66_85 : (z_find z_cV (z_oc 66) 85).map (·.1) = some (1, 1, [(0, 35)]) := by decide +kernel
theorem zd66_2 : decode (z_b 66) 2 = .ok (.invokevirtual 85, 3) := by decide +kernel
theorem zd66_5 : decode (z_b 66) 5 = .ok (.astore_n 3, 1) := by decide +kernel
theorem zd66_6 : decode (z_b 66) 6 = .ok (.aload_n 3, 1) := by decide +kernel
theorem zd66_7 : decode (z_b 66) 7 = .ok (.ifnull 14, 3) := by decide +kernel
theorem zd66_21 : decode (z_b 66) 21 = .ok (.iconst (-1), 1) := by decide +kernel
theorem zr66 : z_rt 66 = some (.int) := by decide +kernel
theorem zd66_22 : decode (z_b 66) 22 = .ok (.ireturn, 1) := by decide +kernel
theorem zd0_766 : decode (z_b 0) 766 = .ok (.aload_n 2, 1) := by decide +kernel
theorem zd0_767 : decode (z_b 0) 767 = .ok (.aload_n 0, 1) := by decide +kernel
theorem zd0_768 : decode (z_b 0) 768 = .ok (.iload_n 3, 1) := by decide +kernel
theorem zd0_769 : decode (z_b 0) 769 = .ok (.iconst 1, 1) := by decide +kernel
theorem zd0_770 : decode (z_b 0) 770 = .ok (.iadd, 1) := by decide +kernel
theorem zd0_771 : decode (z_b 0) 771 = .ok (.iaload, 1) := by decide +kernel
theorem zd0_772 : decode (z_b 0) 772 = .ok (.aload_n 0, 1) := by decide +kernel
theorem zd0_773 : decode (z_b 0) 773 = .ok (.iload_n 3, 1) := by decide +kernel
theorem zd0_774 : decode (z_b 0) 774 = .ok (.iconst 2, 1) := by decide +kernel
theorem zd0_775 : decode (z_b 0) 775 = .ok (.iadd, 1) := by decide +kernel
theorem zd0_776 : decode (z_b 0) 776 = .ok (.iaload, 1) := by decide +kernel
theorem zcV0_77 : (z_find z_cV (z_oc 0) 77).map (·.1) = some (1, 2, [(12, 231)]) := by decide +kernel
theorem zd0_777 : decode (z_b 0) 777 = .ok (.invokevirtual 77, 3) := by decide +kernel
theorem zm231 : z_ml 231 = 3 := by decide +kernel
theorem zd231_0 : decode (z_b 231) 0 = .ok (.aload_n 0, 1) := by decide +kernel
theorem zd231_1 : decode (z_b 231) 1 = .ok (.iload_n 1, 1) := by decide +kernel
theorem zcV231_209 : (z_find z_cV (z_oc 231) 209).map (·.1) = some (1, 1, [(12, 209)]) := by decide +kernel
theorem zd231_2 : decode (z_b 231) 2 = .ok (.invokevirtual 209, 3) := by decide +kernel
theorem zd231_5 : decode (z_b 231) 5 = .ok (.ifCond .eq 12, 3) := by decide +kernel
theorem zd231_17 : decode (z_b 231) 17 = .ok (.iconst (-1), 1) := by decide +kernel
theorem zr231 : z_rt 231 = some (.int) := by decide +kernel
theorem zd231_18 : decode (z_b 231) 18 = .ok (.ireturn, 1) := by decide +kernel
theorem zd0_780 : decode (z_b 0) 780 = .ok (.if_icmp .eq 995, 3) := by decide +kernel
theorem zd0_785 : decode (z_b 0) 785 = .ok (.aload_n 1, 1) := by decide +kernel
theorem zd0_786 : decode (z_b 0) 786 = .ok (.aload_n 0, 1) := by decide +kernel
theorem zd0_787 : decode (z_b 0) 787 = .ok (.iload_n 3, 1) := by decide +kernel
theorem zd0_788 : decode (z_b 0) 788 = .ok (.iconst 1, 1) := by decide +kernel
theorem zd0_789 : decode (z_b 0) 789 = .ok (.iadd, 1) := by decide +kernel
theorem zd0_790 : decode (z_b 0) 790 = .ok (.iaload, 1) := by decide +kernel
theorem zd0_791 : decode (z_b 0) 791 = .ok (.aload_n 0, 1) := by decide +kernel
theorem zd0_792 : decode (z_b 0) 792 = .ok (.iload_n 3, 1) := by decide +kernel
theorem zd0_793 : decode (z_b 0) 793 = .ok (.iconst 2, 1) := by decide +kernel
theorem zd0_794 : decode (z_b 0) 794 = .ok (.iadd, 1) := by decide +kernel
theorem zd0_795 : decode (z_b 0) 795 = .ok (.iaload, 1) := by decide +kernel
theorem zcV0_78 : (z_find z_cV (z_oc 0) 78).map (·.1) = some (1, 2, [(0, 68)]) := by decide +kernel
theorem zd0_796 : decode (z_b 0) 796 = .ok (.invokevirtual 78, 3) := by decide +kernel
theorem zm68 : z_ml 68 = 4 := by decide +kernel
theorem zd68_0 : decode (z_b 68) 0 = .ok (.aload_n 0, 1) := by decide +kernel
theorem zd68_1 : decode (z_b 68) 1 = .ok (.iload_n 1, 1) := by decide +kernel
theorem zcV68_85 : (z_find z_cV (z_oc 68) 85).map (·.1) = some (1, 1, [(0, 35)]) := by decide +kernel
theorem zd68_2 : decode (z_b 68) 2 = .ok (.invokevirtual 85, 3) := by decide +kernel
theorem zd68_5 : decode (z_b 68) 5 = .ok (.astore_n 3, 1) := by decide +kernel
theorem zd68_6 : decode (z_b 68) 6 = .ok (.aload_n 3, 1) := by decide +kernel
theorem zd68_7 : decode (z_b 68) 7 = .ok (.ifnull 8, 3) := by decide +kernel
theorem zd68_15 : decode (z_b 68) 15 = .ok (.iconst (-1), 1) := by decide +kernel
theorem zr68 : z_rt 68 = some (.int) := by decide +kernel
theorem zd68_16 : decode (z_b 68) 16 = .ok (.ireturn, 1) := by decide +kernel
theorem zd0_799 : decode (z_b 0) 799 = .ok (.aload_n 2, 1) := by decide +kernel
theorem zd0_800 : decode (z_b 0) 800 = .ok (.aload_n 0, 1) := by decide +kernel
theorem zd0_801 : decode (z_b 0) 801 = .ok (.iload_n 3, 1) := by decide +kernel
theorem zd0_802 : decode (z_b 0) 802 = .ok (.iconst 1, 1) := by decide +kernel
theorem zd0_803 : decode (z_b 0) 803 = .ok (.iadd, 1) := by decide +kernel
theorem zd0_804 : decode (z_b 0) 804 = .ok (.iaload, 1) := by decide +kernel
theorem zd0_805 : decode (z_b 0) 805 = .ok (.aload_n 0, 1) := by decide +kernel
theorem zd0_806 : decode (z_b 0) 806 = .ok (.iload_n 3, 1) := by decide +kernel
theorem zd0_807 : decode (z_b 0) 807 = .ok (.iconst 2, 1) := by decide +kernel
theorem zd0_808 : decode (z_b 0) 808 = .ok (.iadd, 1) := by decide +kernel
theorem zd0_809 : decode (z_b 0) 809 = .ok (.iaload, 1) := by decide +kernel
theorem zcV0_81 : (z_find z_cV (z_oc 0) 81).map (·.1) = some (1, 2, [(12, 233)]) := by decide +kernel
theorem zd0_810 : decode (z_b 0) 810 = .ok (.invokevirtual 81, 3) := by decide +kernel
theorem zm233 : z_ml 233 = 7 := by decide +kernel
theorem zd233_0 : decode (z_b 233) 0 = .ok (.aload_n 0, 1) := by decide +kernel
theorem zd233_1 : decode (z_b 233) 1 = .ok (.iload_n 1, 1) := by decide +kernel
theorem zcV233_209 : (z_find z_cV (z_oc 233) 209).map (·.1) = some (1, 1, [(12, 209)]) := by decide +kernel
theorem zd233_2 : decode (z_b 233) 2 = .ok (.invokevirtual 209, 3) := by decide +kernel
theorem zd233_5 : decode (z_b 233) 5 = .ok (.ifCond .eq 8, 3) := by decide +kernel
theorem zd233_13 : decode (z_b 233) 13 = .ok (.iconst (-1), 1) := by decide +kernel
theorem zr233 : z_rt 233 = some (.int) := by decide +kernel
theorem zd233_14 : decode (z_b 233) 14 = .ok (.ireturn, 1) := by decide +kernel
theorem zd0_813 : decode (z_b 0) 813 = .ok (.if_icmp .eq 962, 3) := by decide +kernel
theorem zd0_818 : decode (z_b 0) 818 = .ok (.aload_n 1, 1) := by decide +kernel
theorem zd0_819 : decode (z_b 0) 819 = .ok (.aload_n 0, 1) := by decide +kernel
theorem zd0_820 : decode (z_b 0) 820 = .ok (.iload_n 3, 1) := by decide +kernel
theorem zd0_821 : decode (z_b 0) 821 = .ok (.iconst 1, 1) := by decide +kernel
theorem zd0_822 : decode (z_b 0) 822 = .ok (.iadd, 1) := by decide +kernel
theorem zd0_823 : decode (z_b 0) 823 = .ok (.iaload, 1) := by decide +kernel
theorem zd0_824 : decode (z_b 0) 824 = .ok (.aload_n 0, 1) := by decide +kernel
theorem zd0_825 : decode (z_b 0) 825 = .ok (.iload_n 3, 1) := by decide +kernel
theorem zd0_826 : decode (z_b 0) 826 = .ok (.iconst 2, 1) := by decide +kernel
theorem zd0_827 : decode (z_b 0) 827 = .ok (.iadd, 1) := by decide +kernel
theorem zd0_828 : decode (z_b 0) 828 = .ok (.iaload, 1) := by decide +kernel
theorem zd0_829 : decode (z_b 0) 829 = .ok (.aload_n 0, 1) := by decide +kernel
theorem zd0_830 : decode (z_b 0) 830 = .ok (.iload_n 3, 1) := by decide +kernel
theorem zd0_831 : decode (z_b 0) 831 = .ok (.iconst 3, 1) := by decide +kernel
theorem zd0_832 : decode (z_b 0) 832 = .ok (.iadd, 1) := by decide +kernel
theorem zd0_833 : decode (z_b 0) 833 = .ok (.iaload, 1) := by decide +kernel
theorem zcV0_82 : (z_find z_cV (z_oc 0) 82).map (·.1) = some (1, 3, [(0, 73)]) := by decide +kernel
theorem zd0_834 : decode (z_b 0) 834 = .ok (.invokevirtual 82, 3) := by decide +kernel
theorem zm73 : z_ml 73 = 6 := by decide +kernel
theorem zd73_0 : decode (z_b 73) 0 = .ok (.iload_n 1, 1) := by decide +kernel
theorem zd73_1 : decode (z_b 73) 1 = .ok (.ifCond .lt 11, 3) := by decide +kernel
theorem zd73_12 : decode (z_b 73) 12 = .ok (.iconst (-1), 1) := by decide +kernel
theorem zr73 : z_rt 73 = some (.int) := by decide +kernel
theorem zd73_13 : decode (z_b 73) 13 = .ok (.ireturn, 1) := by decide +kernel
theorem zd0_837 : decode (z_b 0) 837 = .ok (.aload_n 2, 1) := by decide +kernel
theorem zd0_838 : decode (z_b 0) 838 = .ok (.aload_n 0, 1) := by decide +kernel
theorem zd0_839 : decode (z_b 0) 839 = .ok (.iload_n 3, 1) := by decide +kernel
theorem zd0_840 : decode (z_b 0) 840 = .ok (.iconst 1, 1) := by decide +kernel
theorem zd0_841 : decode (z_b 0) 841 = .ok (.iadd, 1) := by decide +kernel
theorem zd0_842 : decode (z_b 0) 842 = .ok (.iaload, 1) := by decide +kernel
theorem zd0_843 : decode (z_b 0) 843 = .ok (.aload_n 0, 1) := by decide +kernel
theorem zd0_844 : decode (z_b 0) 844 = .ok (.iload_n 3, 1) := by decide +kernel
theorem zd0_845 : decode (z_b 0) 845 = .ok (.iconst 2, 1) := by decide +kernel
theorem zd0_846 : decode (z_b 0) 846 = .ok (.iadd, 1) := by decide +kernel
theorem zd0_847 : decode (z_b 0) 847 = .ok (.iaload, 1) := by decide +kernel
theorem zd0_848 : decode (z_b 0) 848 = .ok (.aload_n 0, 1) := by decide +kernel
theorem zd0_849 : decode (z_b 0) 849 = .ok (.iload_n 3, 1) := by decide +kernel
theorem zd0_850 : decode (z_b 0) 850 = .ok (.iconst 3, 1) := by decide +kernel
theorem zd0_851 : decode (z_b 0) 851 = .ok (.iadd, 1) := by decide +kernel
theorem zd0_852 : decode (z_b 0) 852 = .ok (.iaload, 1) := by decide +kernel
theorem zcV0_85 : (z_find z_cV (z_oc 0) 85).map (·.1) = some (1, 3, [(12, 235)]) := by decide +kernel
theorem zd0_853 : decode (z_b 0) 853 = .ok (.invokevirtual 85, 3) := by decide +kernel
theorem zm235 : z_ml 235 = 4 := by decide +kernel
theorem zd235_0 : decode (z_b 235) 0 = .ok (.iload_n 1, 1) := by decide +kernel
theorem zd235_1 : decode (z_b 235) 1 = .ok (.i2l, 1) := by decide +kernel
theorem zd235_2 : decode (z_b 235) 2 = .ok (.lconst 0, 1) := by decide +kernel
theorem zl235_265 : (z_find z_l2 (z_oc 235) 265).map (·.1) = some 7 := by decide +kernel
theorem zd235_3 : decode (z_b 235) 3 = .ok (.ldc2_w 265, 3) := by decide +kernel
theorem zcS235_116 : (z_find z_cS (z_oc 235) 116).map (·.1) = some (0, 3, [(0, 189)]) := by decide +kernel
theorem zd235_6 : decode (z_b 235) 6 = .ok (.invokestatic 116, 3) := by decide +kernel
theorem zd235_9 : decode (z_b 235) 9 = .ok (.ifCond .eq 50, 3) := by decide +kernel
theorem zd235_59 : decode (z_b 235) 59 = .ok (.iconst (-1), 1) := by decide +kernel
theorem zr235 : z_rt 235 = some (.int) := by decide +kernel
theorem zd235_60 : decode (z_b 235) 60 = .ok (.ireturn, 1) := by decide +kernel
theorem zd0_856 : decode (z_b 0) 856 = .ok (.if_icmp .eq 919, 3) := by decide +kernel
theorem zd73_4 : decode (z_b 73) 4 = .ok (.iload_n 1, 1) := by decide +kernel
theorem zg73_185 : (z_find z_gs (z_oc 73) 185).map (·.1) = some 3 := by decide +kernel
theorem zd73_5 : decode (z_b 73) 5 = .ok (.getstatic 185, 3) := by decide +kernel
theorem zd73_8 : decode (z_b 73) 8 = .ok (.arraylength, 1) := by decide +kernel
theorem zd73_9 : decode (z_b 73) 9 = .ok (.if_icmp .lt 5, 3) := by decide +kernel
theorem zd73_14 : decode (z_b 73) 14 = .ok (.iload_n 1, 1) := by decide +kernel
theorem zd73_15 : decode (z_b 73) 15 = .ok (.iconst 5, 1) := by decide +kernel
theorem zd73_16 : decode (z_b 73) 16 = .ok (.if_icmp .eq 9, 3) := by decide +kernel
theorem zd73_25 : decode (z_b 73) 25 = .ok (.iconst 1, 1) := by decide +kernel
theorem zd73_26 : decode (z_b 73) 26 = .ok (.goto 4, 3) := by decide +kernel
theorem zd73_30 : decode (z_b 73) 30 = .ok (.istore 4, 2) := by decide +kernel
theorem zd73_32 : decode (z_b 73) 32 = .ok (.iload_n 1, 1) := by decide +kernel
theorem zd73_33 : decode (z_b 73) 33 = .ok (.bipush 6, 2) := by decide +kernel
theorem zd73_35 : decode (z_b 73) 35 = .ok (.if_icmp .eq 9, 3) := by decide +kernel
theorem zd73_38 : decode (z_b 73) 38 = .ok (.iload_n 1, 1) := by decide +kernel
theorem zd73_39 : decode (z_b 73) 39 = .ok (.bipush 7, 2) := by decide +kernel
theorem zd73_41 : decode (z_b 73) 41 = .ok (.if_icmp .ne 7, 3) := by decide +kernel
theorem zd73_48 : decode (z_b 73) 48 = .ok (.iconst 0, 1) := by decide +kernel
theorem zd73_49 : decode (z_b 73) 49 = .ok (.istore 5, 2) := by decide +kernel
theorem zd73_51 : decode (z_b 73) 51 = .ok (.iload 4, 2) := by decide +kernel
theorem zd73_53 : decode (z_b 73) 53 = .ok (.ifCond .eq 13, 3) := by decide +kernel
theorem zd73_56 : decode (z_b 73) 56 = .ok (.iload_n 2, 1) := by decide +kernel
theorem zd73_57 : decode (z_b 73) 57 = .ok (.ifCond .lt 24, 3) := by decide +kernel
theorem zd73_81 : decode (z_b 73) 81 = .ok (.iconst (-1), 1) := by decide +kernel
theorem zd73_82 : decode (z_b 73) 82 = .ok (.ireturn, 1) := by decide +kernel
theorem zd235_12 : decode (z_b 235) 12 = .ok (.iload_n 1, 1) := by decide +kernel
theorem zd235_13 : decode (z_b 235) 13 = .ok (.iconst 5, 1) := by decide +kernel
theorem zd235_14 : decode (z_b 235) 14 = .ok (.if_icmp .eq 9, 3) := by decide +kernel
theorem zd235_23 : decode (z_b 235) 23 = .ok (.iload_n 2, 1) := by decide +kernel
theorem zd235_24 : decode (z_b 235) 24 = .ok (.i2l, 1) := by decide +kernel
theorem zd235_25 : decode (z_b 235) 25 = .ok (.lconst 0, 1) := by decide +kernel
theorem zl235_232 : (z_find z_l2 (z_oc 235) 232).map (·.1) = some 9 := by decide +kernel
theorem zd235_26 : decode (z_b 235) 26 = .ok (.ldc2_w 232, 3) := by decide +kernel
theorem zd235_29 : decode (z_b 235) 29 = .ok (.invokestatic 116, 3) := by decide +kernel
theorem zd235_32 : decode (z_b 235) 32 = .ok (.ifCond .eq 27, 3) := by decide +kernel
theorem zd73_60 : decode (z_b 73) 60 = .ok (.iload_n 2, 1) := by decide +kernel
theorem zd73_61 : decode (z_b 73) 61 = .ok (.bipush 9, 2) := by decide +kernel
theorem zd73_63 : decode (z_b 73) 63 = .ok (.if_icmp .gt 18, 3) := by decide +kernel
theorem zd73_66 : decode (z_b 73) 66 = .ok (.iload 5, 2) := by decide +kernel
theorem zd73_68 : decode (z_b 73) 68 = .ok (.ifCond .eq 15, 3) := by decide +kernel
theorem zd73_83 : decode (z_b 73) 83 = .ok (.aload_n 0, 1) := by decide +kernel
theorem zf73_188 : z_fF (z_oc 73) 188 = some ((5, [0]), "DoorBench") := by decide +kernel
theorem zd73_84 : decode (z_b 73) 84 = .ok (.getfield 188, 3) := by decide +kernel
theorem zd73_87 : decode (z_b 73) 87 = .ok (.bipush 20, 2) := by decide +kernel
theorem zd73_89 : decode (z_b 73) 89 = .ok (.if_icmp .lt 6, 3) := by decide +kernel
theorem zd73_95 : decode (z_b 73) 95 = .ok (.aload_n 0, 1) := by decide +kernel
theorem zf73_27 : z_fF (z_oc 73) 27 = some ((4, [0]), "DoorBench") := by decide +kernel
theorem zd73_96 : decode (z_b 73) 96 = .ok (.getfield 27, 3) := by decide +kernel
theorem zd73_99 : decode (z_b 73) 99 = .ok (.aload_n 0, 1) := by decide +kernel
theorem zd73_100 : decode (z_b 73) 100 = .ok (.getfield 188, 3) := by decide +kernel
theorem zd73_103 : decode (z_b 73) 103 = .ok (.aload_n 0, 1) := by decide +kernel
theorem zd73_104 : decode (z_b 73) 104 = .ok (.iload_n 1, 1) := by decide +kernel
theorem zd73_105 : decode (z_b 73) 105 = .ok (.iload 4, 2) := by decide +kernel
theorem zd73_107 : decode (z_b 73) 107 = .ok (.ifCond .eq 7, 3) := by decide +kernel
theorem zd73_110 : decode (z_b 73) 110 = .ok (.iload_n 2, 1) := by decide +kernel
theorem zd73_111 : decode (z_b 73) 111 = .ok (.goto 4, 3) := by decide +kernel
theorem zd73_115 : decode (z_b 73) 115 = .ok (.iload 5, 2) := by decide +kernel
theorem zd73_117 : decode (z_b 73) 117 = .ok (.ifCond .eq 7, 3) := by decide +kernel
theorem zd73_124 : decode (z_b 73) 124 = .ok (.iconst 0, 1) := by decide +kernel
theorem zcV73_191 : (z_find z_cV (z_oc 73) 191).map (·.1) = some (1, 3, [(0, 74)]) := by decide +kernel
theorem zd73_125 : decode (z_b 73) 125 = .ok (.invokevirtual 191, 3) := by decide +kernel
theorem zm74 : z_ml 74 = 4 := by decide +kernel
theorem zd74_0 : decode (z_b 74) 0 = .ok (.iload_n 1, 1) := by decide +kernel
theorem zd74_1 : decode (z_b 74) 1 = .ok (.tableswitch 168 1 7 #[43, 60, 77, 94, 111, 130, 149], 43) := by decide +kernel
theorem zn74_209 : (z_find z_nw (z_oc 74) 209).map (·.1) = some 9 := by decide +kernel
theorem zd74_112 : decode (z_b 74) 112 = .ok (.new 209, 3) := by decide +kernel
theorem zd74_115 : decode (z_b 74) 115 = .ok (.dup, 1) := by decide +kernel
theorem zd74_116 : decode (z_b 74) 116 = .ok (.iload_n 1, 1) := by decide +kernel
theorem zd74_117 : decode (z_b 74) 117 = .ok (.aload_n 0, 1) := by decide +kernel
theorem zf74_188 : z_fF (z_oc 74) 188 = some ((5, [0]), "DoorBench") := by decide +kernel
theorem zd74_118 : decode (z_b 74) 118 = .ok (.getfield 188, 3) := by decide +kernel
theorem zd74_121 : decode (z_b 74) 121 = .ok (.aload_n 0, 1) := by decide +kernel
theorem zf74_31 : z_fF (z_oc 74) 31 = some ((6, [0]), "DoorBench") := by decide +kernel
theorem zd74_122 : decode (z_b 74) 122 = .ok (.getfield 31, 3) := by decide +kernel
theorem zd74_125 : decode (z_b 74) 125 = .ok (.iload_n 2, 1) := by decide +kernel
theorem zd74_126 : decode (z_b 74) 126 = .ok (.iload_n 3, 1) := by decide +kernel
theorem zcI74_211 : (z_find z_cI (z_oc 74) 211).map (·.1) = some (3, 5, [(0, 80)]) := by decide +kernel
theorem zd74_127 : decode (z_b 74) 127 = .ok (.invokespecial 211, 3) := by decide +kernel
theorem zm80 : z_ml 80 = 6 := by decide +kernel
theorem zd80_0 : decode (z_b 80) 0 = .ok (.aload_n 0, 1) := by decide +kernel
theorem zd80_1 : decode (z_b 80) 1 = .ok (.iload_n 1, 1) := by decide +kernel
theorem zd80_2 : decode (z_b 80) 2 = .ok (.iload_n 2, 1) := by decide +kernel
theorem zd80_3 : decode (z_b 80) 3 = .ok (.aload_n 3, 1) := by decide +kernel
theorem zd80_4 : decode (z_b 80) 4 = .ok (.iload 4, 2) := by decide +kernel
theorem zd80_6 : decode (z_b 80) 6 = .ok (.iload 5, 2) := by decide +kernel
theorem zcI80_1 : (z_find z_cI (z_oc 80) 1).map (·.1) = some (3, 5, [(0, 76)]) := by decide +kernel
theorem zd80_8 : decode (z_b 80) 8 = .ok (.invokespecial 1, 3) := by decide +kernel
theorem zm76 : z_ml 76 = 6 := by decide +kernel
theorem zd76_0 : decode (z_b 76) 0 = .ok (.aload_n 0, 1) := by decide +kernel
theorem zcI76_3 : (z_find z_cI (z_oc 76) 3).map (·.1) = some (7, 0, []) := by decide +kernel
theorem zd76_1 : decode (z_b 76) 1 = .ok (.invokespecial 3, 3) := by decide +kernel
theorem zd76_4 : decode (z_b 76) 4 = .ok (.aload_n 0, 1) := by decide +kernel
theorem zd76_5 : decode (z_b 76) 5 = .ok (.iload_n 1, 1) := by decide +kernel
theorem zf76_9 : z_fF (z_oc 76) 9 = some ((0, [4, 5, 6, 7, 8, 9, 10, 11]), "DoorBench$Way") := by decide +kernel
theorem zd76_6 : decode (z_b 76) 6 = .ok (.putfield 9, 3) := by decide +kernel
theorem zi76 : ((z_name 76).name == "<init>") = true := by decide +kernel
theorem zj76_9 : "DoorBench$Way" = z_cn (z_oc 76) := by decide +kernel
theorem zd76_9 : decode (z_b 76) 9 = .ok (.aload_n 0, 1) := by decide +kernel
theorem zd76_10 : decode (z_b 76) 10 = .ok (.iload_n 2, 1) := by decide +kernel
theorem zf76_15 : z_fF (z_oc 76) 15 = some ((3, [4, 5, 6, 7, 8, 9, 10, 11]), "DoorBench$Way") := by decide +kernel
theorem zd76_11 : decode (z_b 76) 11 = .ok (.putfield 15, 3) := by decide +kernel
theorem zj76_15 : "DoorBench$Way" = z_cn (z_oc 76) := by decide +kernel
theorem zd76_14 : decode (z_b 76) 14 = .ok (.aload_n 0, 1) := by decide +kernel
theorem zd76_15 : decode (z_b 76) 15 = .ok (.aload_n 3, 1) := by decide +kernel
theorem zf76_18 : z_fF (z_oc 76) 18 = some ((4, [4, 5, 6, 7, 8, 9, 10, 11]), "DoorBench$Way") := by decide +kernel
theorem zd76_16 : decode (z_b 76) 16 = .ok (.putfield 18, 3) := by decide +kernel
theorem zj76_18 : "DoorBench$Way" = z_cn (z_oc 76) := by decide +kernel
theorem zd76_19 : decode (z_b 76) 19 = .ok (.aload_n 0, 1) := by decide +kernel
theorem zd76_20 : decode (z_b 76) 20 = .ok (.iload 4, 2) := by decide +kernel
theorem zf76_22 : z_fF (z_oc 76) 22 = some ((1, [4, 5, 6, 7, 8, 9, 10, 11]), "DoorBench$Way") := by decide +kernel
theorem zd76_22 : decode (z_b 76) 22 = .ok (.putfield 22, 3) := by decide +kernel
theorem zj76_22 : "DoorBench$Way" = z_cn (z_oc 76) := by decide +kernel
theorem zd76_25 : decode (z_b 76) 25 = .ok (.aload_n 0, 1) := by decide +kernel
theorem zd76_26 : decode (z_b 76) 26 = .ok (.iload 5, 2) := by decide +kernel
theorem zf76_25 : z_fF (z_oc 76) 25 = some ((2, [4, 5, 6, 7, 8, 9, 10, 11]), "DoorBench$Way") := by decide +kernel
theorem zd76_28 : decode (z_b 76) 28 = .ok (.putfield 25, 3) := by decide +kernel
theorem zj76_25 : "DoorBench$Way" = z_cn (z_oc 76) := by decide +kernel
theorem zr76 : z_rt 76 = none := by decide +kernel
theorem zd76_31 : decode (z_b 76) 31 = .ok (.return_, 1) := by decide +kernel
theorem zr80 : z_rt 80 = none := by decide +kernel
theorem zd80_11 : decode (z_b 80) 11 = .ok (.return_, 1) := by decide +kernel
theorem zr74 : z_rt 74 = some (.object "DoorBench$Way") := by decide +kernel
theorem zd74_130 : decode (z_b 74) 130 = .ok (.areturn, 1) := by decide +kernel
theorem zd73_128 : decode (z_b 73) 128 = .ok (.aastore, 1) := by decide +kernel
theorem zd73_129 : decode (z_b 73) 129 = .ok (.aload_n 0, 1) := by decide +kernel
theorem zd73_130 : decode (z_b 73) 130 = .ok (.dup, 1) := by decide +kernel
theorem zd73_131 : decode (z_b 73) 131 = .ok (.getfield 188, 3) := by decide +kernel
theorem zd73_134 : decode (z_b 73) 134 = .ok (.iconst 1, 1) := by decide +kernel
theorem zd73_135 : decode (z_b 73) 135 = .ok (.iadd, 1) := by decide +kernel
theorem zd73_136 : decode (z_b 73) 136 = .ok (.putfield 188, 3) := by decide +kernel
theorem zd73_139 : decode (z_b 73) 139 = .ok (.aload_n 0, 1) := by decide +kernel
theorem zd73_140 : decode (z_b 73) 140 = .ok (.getfield 188, 3) := by decide +kernel
theorem zd73_143 : decode (z_b 73) 143 = .ok (.iconst 1, 1) := by decide +kernel
theorem zd73_144 : decode (z_b 73) 144 = .ok (.isub, 1) := by decide +kernel
theorem zd73_145 : decode (z_b 73) 145 = .ok (.ireturn, 1) := by decide +kernel
theorem zd235_35 : decode (z_b 235) 35 = .ok (.iload_n 1, 1) := by decide +kernel
theorem zd235_36 : decode (z_b 235) 36 = .ok (.bipush 6, 2) := by decide +kernel
theorem zd235_38 : decode (z_b 235) 38 = .ok (.if_icmp .eq 9, 3) := by decide +kernel
theorem zd235_41 : decode (z_b 235) 41 = .ok (.iload_n 1, 1) := by decide +kernel
theorem zd235_42 : decode (z_b 235) 42 = .ok (.bipush 7, 2) := by decide +kernel
theorem zd235_44 : decode (z_b 235) 44 = .ok (.if_icmp .ne 17, 3) := by decide +kernel
theorem zd235_61 : decode (z_b 235) 61 = .ok (.aload_n 0, 1) := by decide +kernel
theorem zf235_269 : z_fF (z_oc 235) 269 = some ((21, [12]), "DoorBenchModel") := by decide +kernel
theorem zd235_62 : decode (z_b 235) 62 = .ok (.getfield 269, 3) := by decide +kernel
theorem zd235_65 : decode (z_b 235) 65 = .ok (.bipush 20, 2) := by decide +kernel
theorem zd235_67 : decode (z_b 235) 67 = .ok (.if_icmp .ne 6, 3) := by decide +kernel
theorem zd235_73 : decode (z_b 235) 73 = .ok (.aload_n 0, 1) := by decide +kernel
theorem zf235_58 : z_fF (z_oc 235) 58 = some ((18, [12]), "DoorBenchModel") := by decide +kernel
theorem zd235_74 : decode (z_b 235) 74 = .ok (.getfield 58, 3) := by decide +kernel
theorem zd235_77 : decode (z_b 235) 77 = .ok (.aload_n 0, 1) := by decide +kernel
theorem zd235_78 : decode (z_b 235) 78 = .ok (.getfield 269, 3) := by decide +kernel
theorem zd235_81 : decode (z_b 235) 81 = .ok (.iload_n 1, 1) := by decide +kernel
theorem zd235_82 : decode (z_b 235) 82 = .ok (.iastore, 1) := by decide +kernel
theorem zd235_83 : decode (z_b 235) 83 = .ok (.aload_n 0, 1) := by decide +kernel
theorem zf235_61 : z_fF (z_oc 235) 61 = some ((19, [12]), "DoorBenchModel") := by decide +kernel
theorem zd235_84 : decode (z_b 235) 84 = .ok (.getfield 61, 3) := by decide +kernel
theorem zd235_87 : decode (z_b 235) 87 = .ok (.aload_n 0, 1) := by decide +kernel
theorem zd235_88 : decode (z_b 235) 88 = .ok (.getfield 269, 3) := by decide +kernel
theorem zd235_91 : decode (z_b 235) 91 = .ok (.iload_n 1, 1) := by decide +kernel
theorem zd235_92 : decode (z_b 235) 92 = .ok (.iconst 5, 1) := by decide +kernel
theorem zd235_93 : decode (z_b 235) 93 = .ok (.if_icmp .eq 9, 3) := by decide +kernel
theorem zd235_102 : decode (z_b 235) 102 = .ok (.iload_n 2, 1) := by decide +kernel
theorem zd235_103 : decode (z_b 235) 103 = .ok (.goto 4, 3) := by decide +kernel
theorem zd235_107 : decode (z_b 235) 107 = .ok (.iastore, 1) := by decide +kernel
theorem zd235_108 : decode (z_b 235) 108 = .ok (.aload_n 0, 1) := by decide +kernel
theorem zf235_64 : z_fF (z_oc 235) 64 = some ((20, [12]), "DoorBenchModel") := by decide +kernel
theorem zd235_109 : decode (z_b 235) 109 = .ok (.getfield 64, 3) := by decide +kernel
theorem zd235_112 : decode (z_b 235) 112 = .ok (.aload_n 0, 1) := by decide +kernel
theorem zd235_113 : decode (z_b 235) 113 = .ok (.getfield 269, 3) := by decide +kernel
theorem zd235_116 : decode (z_b 235) 116 = .ok (.iload_n 1, 1) := by decide +kernel
theorem zd235_117 : decode (z_b 235) 117 = .ok (.bipush 6, 2) := by decide +kernel
theorem zd235_119 : decode (z_b 235) 119 = .ok (.if_icmp .eq 9, 3) := by decide +kernel
theorem zd235_122 : decode (z_b 235) 122 = .ok (.iload_n 1, 1) := by decide +kernel
theorem zd235_123 : decode (z_b 235) 123 = .ok (.bipush 7, 2) := by decide +kernel
theorem zd235_125 : decode (z_b 235) 125 = .ok (.if_icmp .ne 7, 3) := by decide +kernel
theorem zd235_132 : decode (z_b 235) 132 = .ok (.iconst 0, 1) := by decide +kernel
theorem zd235_133 : decode (z_b 235) 133 = .ok (.iastore, 1) := by decide +kernel
theorem zd235_134 : decode (z_b 235) 134 = .ok (.aload_n 0, 1) := by decide +kernel
theorem zd235_135 : decode (z_b 235) 135 = .ok (.dup, 1) := by decide +kernel
theorem zd235_136 : decode (z_b 235) 136 = .ok (.getfield 269, 3) := by decide +kernel
theorem zd235_139 : decode (z_b 235) 139 = .ok (.iconst 1, 1) := by decide +kernel
theorem zd235_140 : decode (z_b 235) 140 = .ok (.iadd, 1) := by decide +kernel
theorem zd235_141 : decode (z_b 235) 141 = .ok (.putfield 269, 3) := by decide +kernel
theorem zd235_144 : decode (z_b 235) 144 = .ok (.aload_n 0, 1) := by decide +kernel
theorem zd235_145 : decode (z_b 235) 145 = .ok (.getfield 269, 3) := by decide +kernel
theorem zd235_148 : decode (z_b 235) 148 = .ok (.iconst 1, 1) := by decide +kernel
theorem zd235_149 : decode (z_b 235) 149 = .ok (.isub, 1) := by decide +kernel
theorem zd235_150 : decode (z_b 235) 150 = .ok (.ireturn, 1) := by decide +kernel
theorem zd73_19 : decode (z_b 73) 19 = .ok (.iload_n 1, 1) := by decide +kernel
theorem zd73_20 : decode (z_b 73) 20 = .ok (.bipush 6, 2) := by decide +kernel
theorem zd73_22 : decode (z_b 73) 22 = .ok (.if_icmp .ne 7, 3) := by decide +kernel
theorem zd73_44 : decode (z_b 73) 44 = .ok (.iconst 1, 1) := by decide +kernel
theorem zd73_45 : decode (z_b 73) 45 = .ok (.goto 4, 3) := by decide +kernel
theorem zd235_17 : decode (z_b 235) 17 = .ok (.iload_n 1, 1) := by decide +kernel
theorem zd235_18 : decode (z_b 235) 18 = .ok (.bipush 6, 2) := by decide +kernel
theorem zd235_20 : decode (z_b 235) 20 = .ok (.if_icmp .ne 15, 3) := by decide +kernel
theorem zd73_71 : decode (z_b 73) 71 = .ok (.iload_n 3, 1) := by decide +kernel
theorem zd73_72 : decode (z_b 73) 72 = .ok (.ifCond .lt 9, 3) := by decide +kernel
theorem zd235_47 : decode (z_b 235) 47 = .ok (.iload_n 3, 1) := by decide +kernel
theorem zd235_48 : decode (z_b 235) 48 = .ok (.i2l, 1) := by decide +kernel
theorem zd235_49 : decode (z_b 235) 49 = .ok (.lconst 0, 1) := by decide +kernel
theorem zl235_267 : (z_find z_l2 (z_oc 235) 267).map (·.1) = some 8 := by decide +kernel
theorem zd235_50 : decode (z_b 235) 50 = .ok (.ldc2_w 267, 3) := by decide +kernel
theorem zd235_53 : decode (z_b 235) 53 = .ok (.invokestatic 116, 3) := by decide +kernel
theorem zd235_56 : decode (z_b 235) 56 = .ok (.ifCond .ne 5, 3) := by decide +kernel
theorem zd73_75 : decode (z_b 73) 75 = .ok (.iload_n 3, 1) := by decide +kernel
theorem zd73_76 : decode (z_b 73) 76 = .ok (.bipush 9, 2) := by decide +kernel
theorem zd73_78 : decode (z_b 73) 78 = .ok (.if_icmp .lt 5, 3) := by decide +kernel
theorem zd73_120 : decode (z_b 73) 120 = .ok (.iload_n 3, 1) := by decide +kernel
theorem zd73_121 : decode (z_b 73) 121 = .ok (.goto 4, 3) := by decide +kernel
theorem zn74_214 : (z_find z_nw (z_oc 74) 214).map (·.1) = some 10 := by decide +kernel
theorem zd74_131 : decode (z_b 74) 131 = .ok (.new 214, 3) := by decide +kernel
theorem zd74_134 : decode (z_b 74) 134 = .ok (.dup, 1) := by decide +kernel
theorem zd74_135 : decode (z_b 74) 135 = .ok (.iload_n 1, 1) := by decide +kernel
theorem zd74_136 : decode (z_b 74) 136 = .ok (.aload_n 0, 1) := by decide +kernel
theorem zd74_137 : decode (z_b 74) 137 = .ok (.getfield 188, 3) := by decide +kernel
theorem zd74_140 : decode (z_b 74) 140 = .ok (.aload_n 0, 1) := by decide +kernel
theorem zd74_141 : decode (z_b 74) 141 = .ok (.getfield 31, 3) := by decide +kernel
theorem zd74_144 : decode (z_b 74) 144 = .ok (.iload_n 2, 1) := by decide +kernel
theorem zd74_145 : decode (z_b 74) 145 = .ok (.iload_n 3, 1) := by decide +kernel
theorem zcI74_216 : (z_find z_cI (z_oc 74) 216).map (·.1) = some (3, 5, [(0, 81)]) := by decide +kernel
theorem zd74_146 : decode (z_b 74) 146 = .ok (.invokespecial 216, 3) := by decide +kernel
theorem zm81 : z_ml 81 = 6 := by decide +kernel
theorem zd81_0 : decode (z_b 81) 0 = .ok (.aload_n 0, 1) := by decide +kernel
theorem zd81_1 : decode (z_b 81) 1 = .ok (.iload_n 1, 1) := by decide +kernel
theorem zd81_2 : decode (z_b 81) 2 = .ok (.iload_n 2, 1) := by decide +kernel
theorem zd81_3 : decode (z_b 81) 3 = .ok (.aload_n 3, 1) := by decide +kernel
theorem zd81_4 : decode (z_b 81) 4 = .ok (.iload 4, 2) := by decide +kernel
theorem zd81_6 : decode (z_b 81) 6 = .ok (.iload 5, 2) := by decide +kernel
theorem zcI81_1 : (z_find z_cI (z_oc 81) 1).map (·.1) = some (3, 5, [(0, 80)]) := by decide +kernel
theorem zd81_8 : decode (z_b 81) 8 = .ok (.invokespecial 1, 3) := by decide +kernel
theorem zr81 : z_rt 81 = none := by decide +kernel
theorem zd81_11 : decode (z_b 81) 11 = .ok (.return_, 1) := by decide +kernel
theorem zd74_149 : decode (z_b 74) 149 = .ok (.areturn, 1) := by decide +kernel
theorem zd235_96 : decode (z_b 235) 96 = .ok (.iload_n 1, 1) := by decide +kernel
theorem zd235_97 : decode (z_b 235) 97 = .ok (.bipush 6, 2) := by decide +kernel
theorem zd235_99 : decode (z_b 235) 99 = .ok (.if_icmp .ne 7, 3) := by decide +kernel
theorem zd235_128 : decode (z_b 235) 128 = .ok (.iload_n 3, 1) := by decide +kernel
theorem zd235_129 : decode (z_b 235) 129 = .ok (.goto 4, 3) := by decide +kernel
theorem zd73_29 : decode (z_b 73) 29 = .ok (.iconst 0, 1) := by decide +kernel
theorem zd73_114 : decode (z_b 73) 114 = .ok (.iconst 0, 1) := by decide +kernel
theorem zn74_217 : (z_find z_nw (z_oc 74) 217).map (·.1) = some 11 := by decide +kernel
theorem zd74_150 : decode (z_b 74) 150 = .ok (.new 217, 3) := by decide +kernel
theorem zd74_153 : decode (z_b 74) 153 = .ok (.dup, 1) := by decide +kernel
theorem zd74_154 : decode (z_b 74) 154 = .ok (.iload_n 1, 1) := by decide +kernel
theorem zd74_155 : decode (z_b 74) 155 = .ok (.aload_n 0, 1) := by decide +kernel
theorem zd74_156 : decode (z_b 74) 156 = .ok (.getfield 188, 3) := by decide +kernel
theorem zd74_159 : decode (z_b 74) 159 = .ok (.aload_n 0, 1) := by decide +kernel
theorem zd74_160 : decode (z_b 74) 160 = .ok (.getfield 31, 3) := by decide +kernel
theorem zd74_163 : decode (z_b 74) 163 = .ok (.iload_n 2, 1) := by decide +kernel
theorem zd74_164 : decode (z_b 74) 164 = .ok (.iload_n 3, 1) := by decide +kernel
theorem zcI74_219 : (z_find z_cI (z_oc 74) 219).map (·.1) = some (3, 5, [(0, 82)]) := by decide +kernel
theorem zd74_165 : decode (z_b 74) 165 = .ok (.invokespecial 219, 3) := by decide +kernel
theorem zm82 : z_ml 82 = 6 := by decide +kernel
theorem zd82_0 : decode (z_b 82) 0 = .ok (.aload_n 0, 1) := by decide +kernel
theorem zd82_1 : decode (z_b 82) 1 = .ok (.iload_n 1, 1) := by decide +kernel
theorem zd82_2 : decode (z_b 82) 2 = .ok (.iload_n 2, 1) := by decide +kernel
theorem zd82_3 : decode (z_b 82) 3 = .ok (.aload_n 3, 1) := by decide +kernel
theorem zd82_4 : decode (z_b 82) 4 = .ok (.iload 4, 2) := by decide +kernel
theorem zd82_6 : decode (z_b 82) 6 = .ok (.iload 5, 2) := by decide +kernel
theorem zcI82_3 : (z_find z_cI (z_oc 82) 3).map (·.1) = some (3, 5, [(0, 76)]) := by decide +kernel
theorem zd82_8 : decode (z_b 82) 8 = .ok (.invokespecial 3, 3) := by decide +kernel
theorem zr82 : z_rt 82 = none := by decide +kernel
theorem zd82_11 : decode (z_b 82) 11 = .ok (.return_, 1) := by decide +kernel
theorem zd74_168 : decode (z_b 74) 168 = .ok (.areturn, 1) := by decide +kernel
theorem zd235_106 : decode (z_b 235) 106 = .ok (.iconst 0, 1) := by decide +kernel
theorem zn74_195 : (z_find z_nw (z_oc 74) 195).map (·.1) = some 5 := by decide +kernel
theorem zd74_44 : decode (z_b 74) 44 = .ok (.new 195, 3) := by decide +kernel
theorem zd74_47 : decode (z_b 74) 47 = .ok (.dup, 1) := by decide +kernel
theorem zd74_48 : decode (z_b 74) 48 = .ok (.iload_n 1, 1) := by decide +kernel
theorem zd74_49 : decode (z_b 74) 49 = .ok (.aload_n 0, 1) := by decide +kernel
theorem zd74_50 : decode (z_b 74) 50 = .ok (.getfield 188, 3) := by decide +kernel
theorem zd74_53 : decode (z_b 74) 53 = .ok (.aload_n 0, 1) := by decide +kernel
theorem zd74_54 : decode (z_b 74) 54 = .ok (.getfield 31, 3) := by decide +kernel
theorem zcI74_197 : (z_find z_cI (z_oc 74) 197).map (·.1) = some (3, 3, [(0, 75)]) := by decide +kernel
theorem zd74_57 : decode (z_b 74) 57 = .ok (.invokespecial 197, 3) := by decide +kernel
theorem zm75 : z_ml 75 = 4 := by decide +kernel
theorem zd75_0 : decode (z_b 75) 0 = .ok (.aload_n 0, 1) := by decide +kernel
theorem zd75_1 : decode (z_b 75) 1 = .ok (.iload_n 1, 1) := by decide +kernel
theorem zd75_2 : decode (z_b 75) 2 = .ok (.iload_n 2, 1) := by decide +kernel
theorem zd75_3 : decode (z_b 75) 3 = .ok (.aload_n 3, 1) := by decide +kernel
theorem zd75_4 : decode (z_b 75) 4 = .ok (.iconst 0, 1) := by decide +kernel
theorem zd75_5 : decode (z_b 75) 5 = .ok (.iconst 0, 1) := by decide +kernel
theorem zcI75_1 : (z_find z_cI (z_oc 75) 1).map (·.1) = some (3, 5, [(0, 76)]) := by decide +kernel
theorem zd75_6 : decode (z_b 75) 6 = .ok (.invokespecial 1, 3) := by decide +kernel
theorem zr75 : z_rt 75 = none := by decide +kernel
theorem zd75_9 : decode (z_b 75) 9 = .ok (.return_, 1) := by decide +kernel
theorem zd74_60 : decode (z_b 74) 60 = .ok (.areturn, 1) := by decide +kernel
theorem zn74_200 : (z_find z_nw (z_oc 74) 200).map (·.1) = some 6 := by decide +kernel
theorem zd74_61 : decode (z_b 74) 61 = .ok (.new 200, 3) := by decide +kernel
theorem zd74_64 : decode (z_b 74) 64 = .ok (.dup, 1) := by decide +kernel
theorem zd74_65 : decode (z_b 74) 65 = .ok (.iload_n 1, 1) := by decide +kernel
theorem zd74_66 : decode (z_b 74) 66 = .ok (.aload_n 0, 1) := by decide +kernel
theorem zd74_67 : decode (z_b 74) 67 = .ok (.getfield 188, 3) := by decide +kernel
theorem zd74_70 : decode (z_b 74) 70 = .ok (.aload_n 0, 1) := by decide +kernel
theorem zd74_71 : decode (z_b 74) 71 = .ok (.getfield 31, 3) := by decide +kernel
theorem zcI74_202 : (z_find z_cI (z_oc 74) 202).map (·.1) = some (3, 3, [(0, 77)]) := by decide +kernel
theorem zd74_74 : decode (z_b 74) 74 = .ok (.invokespecial 202, 3) := by decide +kernel
theorem zm77 : z_ml 77 = 4 := by decide +kernel
theorem zd77_0 : decode (z_b 77) 0 = .ok (.aload_n 0, 1) := by decide +kernel
theorem zd77_1 : decode (z_b 77) 1 = .ok (.iload_n 1, 1) := by decide +kernel
theorem zd77_2 : decode (z_b 77) 2 = .ok (.iload_n 2, 1) := by decide +kernel
theorem zd77_3 : decode (z_b 77) 3 = .ok (.aload_n 3, 1) := by decide +kernel
theorem zcI77_1 : (z_find z_cI (z_oc 77) 1).map (·.1) = some (3, 3, [(0, 75)]) := by decide +kernel
theorem zd77_4 : decode (z_b 77) 4 = .ok (.invokespecial 1, 3) := by decide +kernel
theorem zr77 : z_rt 77 = none := by decide +kernel
theorem zd77_7 : decode (z_b 77) 7 = .ok (.return_, 1) := by decide +kernel
theorem zd74_77 : decode (z_b 74) 77 = .ok (.areturn, 1) := by decide +kernel
theorem zn74_203 : (z_find z_nw (z_oc 74) 203).map (·.1) = some 7 := by decide +kernel
theorem zd74_78 : decode (z_b 74) 78 = .ok (.new 203, 3) := by decide +kernel
theorem zd74_81 : decode (z_b 74) 81 = .ok (.dup, 1) := by decide +kernel
theorem zd74_82 : decode (z_b 74) 82 = .ok (.iload_n 1, 1) := by decide +kernel
theorem zd74_83 : decode (z_b 74) 83 = .ok (.aload_n 0, 1) := by decide +kernel
theorem zd74_84 : decode (z_b 74) 84 = .ok (.getfield 188, 3) := by decide +kernel
theorem zd74_87 : decode (z_b 74) 87 = .ok (.aload_n 0, 1) := by decide +kernel
theorem zd74_88 : decode (z_b 74) 88 = .ok (.getfield 31, 3) := by decide +kernel
theorem zcI74_205 : (z_find z_cI (z_oc 74) 205).map (·.1) = some (3, 3, [(0, 78)]) := by decide +kernel
theorem zd74_91 : decode (z_b 74) 91 = .ok (.invokespecial 205, 3) := by decide +kernel
theorem zm78 : z_ml 78 = 4 := by decide +kernel
theorem zd78_0 : decode (z_b 78) 0 = .ok (.aload_n 0, 1) := by decide +kernel
theorem zd78_1 : decode (z_b 78) 1 = .ok (.iload_n 1, 1) := by decide +kernel
theorem zd78_2 : decode (z_b 78) 2 = .ok (.iload_n 2, 1) := by decide +kernel
theorem zd78_3 : decode (z_b 78) 3 = .ok (.aload_n 3, 1) := by decide +kernel
theorem zcI78_1 : (z_find z_cI (z_oc 78) 1).map (·.1) = some (3, 3, [(0, 75)]) := by decide +kernel
theorem zd78_4 : decode (z_b 78) 4 = .ok (.invokespecial 1, 3) := by decide +kernel
theorem zr78 : z_rt 78 = none := by decide +kernel
theorem zd78_7 : decode (z_b 78) 7 = .ok (.return_, 1) := by decide +kernel
theorem zd74_94 : decode (z_b 74) 94 = .ok (.areturn, 1) := by decide +kernel
theorem zn74_206 : (z_find z_nw (z_oc 74) 206).map (·.1) = some 8 := by decide +kernel
theorem zd74_95 : decode (z_b 74) 95 = .ok (.new 206, 3) := by decide +kernel
theorem zd74_98 : decode (z_b 74) 98 = .ok (.dup, 1) := by decide +kernel
theorem zd74_99 : decode (z_b 74) 99 = .ok (.iload_n 1, 1) := by decide +kernel
theorem zd74_100 : decode (z_b 74) 100 = .ok (.aload_n 0, 1) := by decide +kernel
theorem zd74_101 : decode (z_b 74) 101 = .ok (.getfield 188, 3) := by decide +kernel
theorem zd74_104 : decode (z_b 74) 104 = .ok (.aload_n 0, 1) := by decide +kernel
theorem zd74_105 : decode (z_b 74) 105 = .ok (.getfield 31, 3) := by decide +kernel
theorem zcI74_208 : (z_find z_cI (z_oc 74) 208).map (·.1) = some (3, 3, [(0, 79)]) := by decide +kernel
theorem zd74_108 : decode (z_b 74) 108 = .ok (.invokespecial 208, 3) := by decide +kernel
theorem zm79 : z_ml 79 = 4 := by decide +kernel
theorem zd79_0 : decode (z_b 79) 0 = .ok (.aload_n 0, 1) := by decide +kernel
theorem zd79_1 : decode (z_b 79) 1 = .ok (.iload_n 1, 1) := by decide +kernel
theorem zd79_2 : decode (z_b 79) 2 = .ok (.iload_n 2, 1) := by decide +kernel
theorem zd79_3 : decode (z_b 79) 3 = .ok (.aload_n 3, 1) := by decide +kernel
theorem zd79_4 : decode (z_b 79) 4 = .ok (.iconst 0, 1) := by decide +kernel
theorem zd79_5 : decode (z_b 79) 5 = .ok (.iconst 0, 1) := by decide +kernel
theorem zcI79_1 : (z_find z_cI (z_oc 79) 1).map (·.1) = some (3, 5, [(0, 76)]) := by decide +kernel
theorem zd79_6 : decode (z_b 79) 6 = .ok (.invokespecial 1, 3) := by decide +kernel
theorem zr79 : z_rt 79 = none := by decide +kernel
theorem zd79_9 : decode (z_b 79) 9 = .ok (.return_, 1) := by decide +kernel
theorem zd74_111 : decode (z_b 74) 111 = .ok (.areturn, 1) := by decide +kernel
theorem zn74_25 : (z_find z_nw (z_oc 74) 25).map (·.1) = some 4 := by decide +kernel
theorem zd74_169 : decode (z_b 74) 169 = .ok (.new 25, 3) := by decide +kernel
theorem zd74_172 : decode (z_b 74) 172 = .ok (.dup, 1) := by decide +kernel
theorem zd74_173 : decode (z_b 74) 173 = .ok (.iload_n 1, 1) := by decide +kernel
theorem zd74_174 : decode (z_b 74) 174 = .ok (.aload_n 0, 1) := by decide +kernel
theorem zd74_175 : decode (z_b 74) 175 = .ok (.getfield 188, 3) := by decide +kernel
theorem zd74_178 : decode (z_b 74) 178 = .ok (.aload_n 0, 1) := by decide +kernel
theorem zd74_179 : decode (z_b 74) 179 = .ok (.getfield 31, 3) := by decide +kernel
theorem zd74_182 : decode (z_b 74) 182 = .ok (.iload_n 2, 1) := by decide +kernel
theorem zd74_183 : decode (z_b 74) 183 = .ok (.iload_n 3, 1) := by decide +kernel
theorem zcI74_220 : (z_find z_cI (z_oc 74) 220).map (·.1) = some (3, 5, [(0, 76)]) := by decide +kernel
theorem zd74_184 : decode (z_b 74) 184 = .ok (.invokespecial 220, 3) := by decide +kernel
theorem zd74_187 : decode (z_b 74) 187 = .ok (.areturn, 1) := by decide +kernel
theorem zd0_861 : decode (z_b 0) 861 = .ok (.aload_n 1, 1) := by decide +kernel
theorem zd0_862 : decode (z_b 0) 862 = .ok (.aload_n 0, 1) := by decide +kernel
theorem zd0_863 : decode (z_b 0) 863 = .ok (.iload_n 3, 1) := by decide +kernel
theorem zd0_864 : decode (z_b 0) 864 = .ok (.iconst 1, 1) := by decide +kernel
theorem zd0_865 : decode (z_b 0) 865 = .ok (.iadd, 1) := by decide +kernel
theorem zd0_866 : decode (z_b 0) 866 = .ok (.iaload, 1) := by decide +kernel
theorem zd0_867 : decode (z_b 0) 867 = .ok (.aload_n 0, 1) := by decide +kernel
theorem zd0_868 : decode (z_b 0) 868 = .ok (.iload_n 3, 1) := by decide +kernel
theorem zd0_869 : decode (z_b 0) 869 = .ok (.iconst 2, 1) := by decide +kernel
theorem zd0_870 : decode (z_b 0) 870 = .ok (.iadd, 1) := by decide +kernel
theorem zd0_871 : decode (z_b 0) 871 = .ok (.iaload, 1) := by decide +kernel
theorem zcV0_86 : (z_find z_cV (z_oc 0) 86).map (·.1) = some (1, 2, [(0, 83)]) := by decide +kernel
theorem zd0_872 : decode (z_b 0) 872 = .ok (.invokevirtual 86, 3) := by decide +kernel
theorem zm83 : z_ml 83 = 4 := by decide +kernel
theorem zd83_0 : decode (z_b 83) 0 = .ok (.aload_n 0, 1) := by decide +kernel
theorem zd83_1 : decode (z_b 83) 1 = .ok (.iload_n 1, 1) := by decide +kernel
theorem zcV83_221 : (z_find z_cV (z_oc 83) 221).map (·.1) = some (1, 1, [(0, 84)]) := by decide +kernel
theorem zd83_2 : decode (z_b 83) 2 = .ok (.invokevirtual 221, 3) := by decide +kernel
theorem zm84 : z_ml 84 = 2 := by decide +kernel
theorem zd84_0 : decode (z_b 84) 0 = .ok (.iload_n 1, 1) := by decide +kernel
theorem zd84_1 : decode (z_b 84) 1 = .ok (.ifCond .lt 11, 3) := by decide +kernel
theorem zd84_12 : decode (z_b 84) 12 = .ok (.aconst_null, 1) := by decide +kernel
theorem zd84_13 : decode (z_b 84) 13 = .ok (.goto 9, 3) := by decide +kernel
theorem zr84 : z_rt 84 = some (.object "DoorBench$Way") := by decide +kernel
theorem zd84_22 : decode (z_b 84) 22 = .ok (.areturn, 1) := by decide +kernel
theorem zd83_5 : decode (z_b 83) 5 = .ok (.astore_n 3, 1) := by decide +kernel
theorem zd83_6 : decode (z_b 83) 6 = .ok (.aload_n 3, 1) := by decide +kernel
theorem zd83_7 : decode (z_b 83) 7 = .ok (.ifnonnull 5, 3) := by decide +kernel
theorem zd83_10 : decode (z_b 83) 10 = .ok (.iconst (-1), 1) := by decide +kernel
theorem zr83 : z_rt 83 = some (.int) := by decide +kernel
theorem zd83_11 : decode (z_b 83) 11 = .ok (.ireturn, 1) := by decide +kernel
theorem zd0_875 : decode (z_b 0) 875 = .ok (.aload_n 2, 1) := by decide +kernel
theorem zd0_876 : decode (z_b 0) 876 = .ok (.aload_n 0, 1) := by decide +kernel
theorem zd0_877 : decode (z_b 0) 877 = .ok (.iload_n 3, 1) := by decide +kernel
theorem zd0_878 : decode (z_b 0) 878 = .ok (.iconst 1, 1) := by decide +kernel
theorem zd0_879 : decode (z_b 0) 879 = .ok (.iadd, 1) := by decide +kernel
theorem zd0_880 : decode (z_b 0) 880 = .ok (.iaload, 1) := by decide +kernel
theorem zd0_881 : decode (z_b 0) 881 = .ok (.aload_n 0, 1) := by decide +kernel
theorem zd0_882 : decode (z_b 0) 882 = .ok (.iload_n 3, 1) := by decide +kernel
theorem zd0_883 : decode (z_b 0) 883 = .ok (.iconst 2, 1) := by decide +kernel
theorem zd0_884 : decode (z_b 0) 884 = .ok (.iadd, 1) := by decide +kernel
theorem zd0_885 : decode (z_b 0) 885 = .ok (.iaload, 1) := by decide +kernel
theorem zcV0_89 : (z_find z_cV (z_oc 0) 89).map (·.1) = some (1, 2, [(12, 236)]) := by decide +kernel
theorem zd0_886 : decode (z_b 0) 886 = .ok (.invokevirtual 89, 3) := by decide +kernel
theorem zm236 : z_ml 236 = 3 := by decide +kernel
theorem zd236_0 : decode (z_b 236) 0 = .ok (.aload_n 0, 1) := by decide +kernel
theorem zd236_1 : decode (z_b 236) 1 = .ok (.iload_n 1, 1) := by decide +kernel
theorem zcV236_272 : (z_find z_cV (z_oc 236) 272).map (·.1) = some (1, 1, [(12, 237)]) := by decide +kernel
theorem zd236_2 : decode (z_b 236) 2 = .ok (.invokevirtual 272, 3) := by decide +kernel
theorem zm237 : z_ml 237 = 2 := by decide +kernel
theorem zd237_0 : decode (z_b 237) 0 = .ok (.iload_n 1, 1) := by decide +kernel
theorem zd237_1 : decode (z_b 237) 1 = .ok (.ifCond .lt 15, 3) := by decide +kernel
theorem zd237_16 : decode (z_b 237) 16 = .ok (.iconst 0, 1) := by decide +kernel
theorem zr237 : z_rt 237 = some (.boolean) := by decide +kernel
theorem zd237_17 : decode (z_b 237) 17 = .ok (.ireturn, 1) := by decide +kernel
theorem zd236_5 : decode (z_b 236) 5 = .ok (.ifCond .eq 15, 3) := by decide +kernel
theorem zd236_20 : decode (z_b 236) 20 = .ok (.iconst (-1), 1) := by decide +kernel
theorem zr236 : z_rt 236 = some (.int) := by decide +kernel
theorem zd236_21 : decode (z_b 236) 21 = .ok (.ireturn, 1) := by decide +kernel
theorem zd0_889 : decode (z_b 0) 889 = .ok (.if_icmp .eq 886, 3) := by decide +kernel
theorem zd84_4 : decode (z_b 84) 4 = .ok (.iload_n 1, 1) := by decide +kernel
theorem zd84_5 : decode (z_b 84) 5 = .ok (.aload_n 0, 1) := by decide +kernel
theorem zf84_188 : z_fF (z_oc 84) 188 = some ((5, [0]), "DoorBench") := by decide +kernel
theorem zd84_6 : decode (z_b 84) 6 = .ok (.getfield 188, 3) := by decide +kernel
theorem zd84_9 : decode (z_b 84) 9 = .ok (.if_icmp .lt 7, 3) := by decide +kernel
theorem zd237_4 : decode (z_b 237) 4 = .ok (.iload_n 1, 1) := by decide +kernel
theorem zd237_5 : decode (z_b 237) 5 = .ok (.aload_n 0, 1) := by decide +kernel
theorem zf237_269 : z_fF (z_oc 237) 269 = some ((21, [12]), "DoorBenchModel") := by decide +kernel
theorem zd237_6 : decode (z_b 237) 6 = .ok (.getfield 269, 3) := by decide +kernel
theorem zd237_9 : decode (z_b 237) 9 = .ok (.if_icmp .ge 7, 3) := by decide +kernel
theorem zd0_894 : decode (z_b 0) 894 = .ok (.aload_n 1, 1) := by decide +kernel
theorem zd0_895 : decode (z_b 0) 895 = .ok (.aload_n 0, 1) := by decide +kernel
theorem zd0_896 : decode (z_b 0) 896 = .ok (.iload_n 3, 1) := by decide +kernel
theorem zd0_897 : decode (z_b 0) 897 = .ok (.iconst 1, 1) := by decide +kernel
theorem zd0_898 : decode (z_b 0) 898 = .ok (.iadd, 1) := by decide +kernel
theorem zd0_899 : decode (z_b 0) 899 = .ok (.iaload, 1) := by decide +kernel
theorem zd0_900 : decode (z_b 0) 900 = .ok (.aload_n 0, 1) := by decide +kernel
theorem zd0_901 : decode (z_b 0) 901 = .ok (.iload_n 3, 1) := by decide +kernel
theorem zd0_902 : decode (z_b 0) 902 = .ok (.iconst 2, 1) := by decide +kernel
theorem zd0_903 : decode (z_b 0) 903 = .ok (.iadd, 1) := by decide +kernel
theorem zd0_904 : decode (z_b 0) 904 = .ok (.iaload, 1) := by decide +kernel
theorem zd0_905 : decode (z_b 0) 905 = .ok (.aload_n 0, 1) := by decide +kernel
theorem zd0_906 : decode (z_b 0) 906 = .ok (.iload_n 3, 1) := by decide +kernel
theorem zd0_907 : decode (z_b 0) 907 = .ok (.iconst 3, 1) := by decide +kernel
theorem zd0_908 : decode (z_b 0) 908 = .ok (.iadd, 1) := by decide +kernel
theorem zd0_909 : decode (z_b 0) 909 = .ok (.iaload, 1) := by decide +kernel
theorem zcV0_90 : (z_find z_cV (z_oc 0) 90).map (·.1) = some (1, 3, [(0, 85)]) := by decide +kernel
theorem zd0_910 : decode (z_b 0) 910 = .ok (.invokevirtual 90, 3) := by decide +kernel
theorem zm85 : z_ml 85 = 7 := by decide +kernel
theorem zd85_0 : decode (z_b 85) 0 = .ok (.aload_n 0, 1) := by decide +kernel
theorem zd85_1 : decode (z_b 85) 1 = .ok (.iload_n 1, 1) := by decide +kernel
theorem zcV85_221 : (z_find z_cV (z_oc 85) 221).map (·.1) = some (1, 1, [(0, 84)]) := by decide +kernel
theorem zd85_2 : decode (z_b 85) 2 = .ok (.invokevirtual 221, 3) := by decide +kernel
theorem zd85_5 : decode (z_b 85) 5 = .ok (.astore 4, 2) := by decide +kernel
theorem zd85_7 : decode (z_b 85) 7 = .ok (.aload_n 0, 1) := by decide +kernel
theorem zd85_8 : decode (z_b 85) 8 = .ok (.iload_n 2, 1) := by decide +kernel
theorem zcV85_85 : (z_find z_cV (z_oc 85) 85).map (·.1) = some (1, 1, [(0, 35)]) := by decide +kernel
theorem zd85_9 : decode (z_b 85) 9 = .ok (.invokevirtual 85, 3) := by decide +kernel
theorem zd85_12 : decode (z_b 85) 12 = .ok (.astore 5, 2) := by decide +kernel
theorem zd85_14 : decode (z_b 85) 14 = .ok (.aload 4, 2) := by decide +kernel
theorem zd85_16 : decode (z_b 85) 16 = .ok (.ifnull 17, 3) := by decide +kernel
theorem zd85_33 : decode (z_b 85) 33 = .ok (.iconst (-1), 1) := by decide +kernel
theorem zr85 : z_rt 85 = some (.int) := by decide +kernel
theorem zd85_34 : decode (z_b 85) 34 = .ok (.ireturn, 1) := by decide +kernel
theorem zd0_913 : decode (z_b 0) 913 = .ok (.aload_n 2, 1) := by decide +kernel
theorem zd0_914 : decode (z_b 0) 914 = .ok (.aload_n 0, 1) := by decide +kernel
theorem zd0_915 : decode (z_b 0) 915 = .ok (.iload_n 3, 1) := by decide +kernel
theorem zd0_916 : decode (z_b 0) 916 = .ok (.iconst 1, 1) := by decide +kernel
theorem zd0_917 : decode (z_b 0) 917 = .ok (.iadd, 1) := by decide +kernel
theorem zd0_918 : decode (z_b 0) 918 = .ok (.iaload, 1) := by decide +kernel
theorem zd0_919 : decode (z_b 0) 919 = .ok (.aload_n 0, 1) := by decide +kernel
theorem zd0_920 : decode (z_b 0) 920 = .ok (.iload_n 3, 1) := by decide +kernel
theorem zd0_921 : decode (z_b 0) 921 = .ok (.iconst 2, 1) := by decide +kernel
theorem zd0_922 : decode (z_b 0) 922 = .ok (.iadd, 1) := by decide +kernel
theorem zd0_923 : decode (z_b 0) 923 = .ok (.iaload, 1) := by decide +kernel
theorem zd0_924 : decode (z_b 0) 924 = .ok (.aload_n 0, 1) := by decide +kernel
theorem zd0_925 : decode (z_b 0) 925 = .ok (.iload_n 3, 1) := by decide +kernel
theorem zd0_926 : decode (z_b 0) 926 = .ok (.iconst 3, 1) := by decide +kernel
theorem zd0_927 : decode (z_b 0) 927 = .ok (.iadd, 1) := by decide +kernel
theorem zd0_928 : decode (z_b 0) 928 = .ok (.iaload, 1) := by decide +kernel
theorem zcV0_93 : (z_find z_cV (z_oc 0) 93).map (·.1) = some (1, 3, [(12, 238)]) := by decide +kernel
theorem zd0_929 : decode (z_b 0) 929 = .ok (.invokevirtual 93, 3) := by decide +kernel
theorem zm238 : z_ml 238 = 4 := by decide +kernel
theorem zd238_0 : decode (z_b 238) 0 = .ok (.aload_n 0, 1) := by decide +kernel
theorem zd238_1 : decode (z_b 238) 1 = .ok (.iload_n 1, 1) := by decide +kernel
theorem zcV238_272 : (z_find z_cV (z_oc 238) 272).map (·.1) = some (1, 1, [(12, 237)]) := by decide +kernel
theorem zd238_2 : decode (z_b 238) 2 = .ok (.invokevirtual 272, 3) := by decide +kernel
theorem zd238_5 : decode (z_b 238) 5 = .ok (.ifCond .eq 23, 3) := by decide +kernel
theorem zd238_28 : decode (z_b 238) 28 = .ok (.iconst (-1), 1) := by decide +kernel
theorem zr238 : z_rt 238 = some (.int) := by decide +kernel
theorem zd238_29 : decode (z_b 238) 29 = .ok (.ireturn, 1) := by decide +kernel
theorem zd0_932 : decode (z_b 0) 932 = .ok (.if_icmp .eq 843, 3) := by decide +kernel
theorem zd0_937 : decode (z_b 0) 937 = .ok (.aload_n 1, 1) := by decide +kernel
theorem zd0_938 : decode (z_b 0) 938 = .ok (.aload_n 0, 1) := by decide +kernel
theorem zd0_939 : decode (z_b 0) 939 = .ok (.iload_n 3, 1) := by decide +kernel
theorem zd0_940 : decode (z_b 0) 940 = .ok (.iconst 1, 1) := by decide +kernel
theorem zd0_941 : decode (z_b 0) 941 = .ok (.iadd, 1) := by decide +kernel
theorem zd0_942 : decode (z_b 0) 942 = .ok (.iaload, 1) := by decide +kernel
theorem zd0_943 : decode (z_b 0) 943 = .ok (.aload_n 0, 1) := by decide +kernel
theorem zd0_944 : decode (z_b 0) 944 = .ok (.iload_n 3, 1) := by decide +kernel
theorem zd0_945 : decode (z_b 0) 945 = .ok (.iconst 2, 1) := by decide +kernel
theorem zd0_946 : decode (z_b 0) 946 = .ok (.iadd, 1) := by decide +kernel
theorem zd0_947 : decode (z_b 0) 947 = .ok (.iaload, 1) := by decide +kernel
theorem zcV0_94 : (z_find z_cV (z_oc 0) 94).map (·.1) = some (1, 2, [(0, 102)]) := by decide +kernel
theorem zd0_948 : decode (z_b 0) 948 = .ok (.invokevirtual 94, 3) := by decide +kernel
theorem zm102 : z_ml 102 = 4 := by decide +kernel
theorem zd102_0 : decode (z_b 102) 0 = .ok (.aload_n 0, 1) := by decide +kernel
theorem zd102_1 : decode (z_b 102) 1 = .ok (.iload_n 1, 1) := by decide +kernel
theorem zd102_2 : decode (z_b 102) 2 = .ok (.iload_n 2, 1) := by decide +kernel
theorem zcV102_241 : (z_find z_cV (z_oc 102) 241).map (·.1) = some (1, 2, [(0, 103)]) := by decide +kernel
theorem zd102_3 : decode (z_b 102) 3 = .ok (.invokevirtual 241, 3) := by decide +kernel
theorem zm103 : z_ml 103 = 4 := by decide +kernel
theorem zd103_0 : decode (z_b 103) 0 = .ok (.aload_n 0, 1) := by decide +kernel
theorem zd103_1 : decode (z_b 103) 1 = .ok (.iload_n 1, 1) := by decide +kernel
theorem zcV103_108 : (z_find z_cV (z_oc 103) 108).map (·.1) = some (1, 1, [(0, 37)]) := by decide +kernel
theorem zd103_2 : decode (z_b 103) 2 = .ok (.invokevirtual 108, 3) := by decide +kernel
theorem zd103_5 : decode (z_b 103) 5 = .ok (.astore_n 3, 1) := by decide +kernel
theorem zd103_6 : decode (z_b 103) 6 = .ok (.aload_n 3, 1) := by decide +kernel
theorem zd103_7 : decode (z_b 103) 7 = .ok (.ifnull 13, 3) := by decide +kernel
theorem zd103_20 : decode (z_b 103) 20 = .ok (.iconst (-1), 1) := by decide +kernel
theorem zr103 : z_rt 103 = some (.int) := by decide +kernel
theorem zd103_21 : decode (z_b 103) 21 = .ok (.ireturn, 1) := by decide +kernel
theorem zd102_6 : decode (z_b 102) 6 = .ok (.istore_n 3, 1) := by decide +kernel
theorem zd102_7 : decode (z_b 102) 7 = .ok (.iload_n 3, 1) := by decide +kernel
theorem zd102_8 : decode (z_b 102) 8 = .ok (.ifCond .eq 5, 3) := by decide +kernel
theorem zd102_11 : decode (z_b 102) 11 = .ok (.iload_n 3, 1) := by decide +kernel
theorem zr102 : z_rt 102 = some (.int) := by decide +kernel
theorem zd102_12 : decode (z_b 102) 12 = .ok (.ireturn, 1) := by decide +kernel
theorem zd0_951 : decode (z_b 0) 951 = .ok (.aload_n 2, 1) := by decide +kernel
theorem zd0_952 : decode (z_b 0) 952 = .ok (.aload_n 0, 1) := by decide +kernel
theorem zd0_953 : decode (z_b 0) 953 = .ok (.iload_n 3, 1) := by decide +kernel
theorem zd0_954 : decode (z_b 0) 954 = .ok (.iconst 1, 1) := by decide +kernel
theorem zd0_955 : decode (z_b 0) 955 = .ok (.iadd, 1) := by decide +kernel
theorem zd0_956 : decode (z_b 0) 956 = .ok (.iaload, 1) := by decide +kernel
theorem zd0_957 : decode (z_b 0) 957 = .ok (.aload_n 0, 1) := by decide +kernel
theorem zd0_958 : decode (z_b 0) 958 = .ok (.iload_n 3, 1) := by decide +kernel
theorem zd0_959 : decode (z_b 0) 959 = .ok (.iconst 2, 1) := by decide +kernel
theorem zd0_960 : decode (z_b 0) 960 = .ok (.iadd, 1) := by decide +kernel
theorem zd0_961 : decode (z_b 0) 961 = .ok (.iaload, 1) := by decide +kernel
theorem zcV0_97 : (z_find z_cV (z_oc 0) 97).map (·.1) = some (1, 2, [(12, 250)]) := by decide +kernel
theorem zd0_962 : decode (z_b 0) 962 = .ok (.invokevirtual 97, 3) := by decide +kernel
theorem zm250 : z_ml 250 = 6 := by decide +kernel
theorem zd250_0 : decode (z_b 250) 0 = .ok (.aload_n 0, 1) := by decide +kernel
theorem zd250_1 : decode (z_b 250) 1 = .ok (.iload_n 1, 1) := by decide +kernel
theorem zd250_2 : decode (z_b 250) 2 = .ok (.iload_n 2, 1) := by decide +kernel
theorem zcV250_320 : (z_find z_cV (z_oc 250) 320).map (·.1) = some (1, 2, [(12, 251)]) := by decide +kernel
theorem zd250_3 : decode (z_b 250) 3 = .ok (.invokevirtual 320, 3) := by decide +kernel
theorem zm251 : z_ml 251 = 3 := by decide +kernel
theorem zd251_0 : decode (z_b 251) 0 = .ok (.aload_n 0, 1) := by decide +kernel
theorem zd251_1 : decode (z_b 251) 1 = .ok (.iload_n 1, 1) := by decide +kernel
theorem zcV251_209 : (z_find z_cV (z_oc 251) 209).map (·.1) = some (1, 1, [(12, 209)]) := by decide +kernel
theorem zd251_2 : decode (z_b 251) 2 = .ok (.invokevirtual 209, 3) := by decide +kernel
theorem zd251_5 : decode (z_b 251) 5 = .ok (.ifCond .eq 15, 3) := by decide +kernel
theorem zd251_20 : decode (z_b 251) 20 = .ok (.iconst (-1), 1) := by decide +kernel
theorem zr251 : z_rt 251 = some (.int) := by decide +kernel
theorem zd251_21 : decode (z_b 251) 21 = .ok (.ireturn, 1) := by decide +kernel
theorem zd250_6 : decode (z_b 250) 6 = .ok (.istore_n 3, 1) := by decide +kernel
theorem zd250_7 : decode (z_b 250) 7 = .ok (.iload_n 3, 1) := by decide +kernel
theorem zd250_8 : decode (z_b 250) 8 = .ok (.ifCond .ge 5, 3) := by decide +kernel
theorem zd250_11 : decode (z_b 250) 11 = .ok (.iload_n 3, 1) := by decide +kernel
theorem zr250 : z_rt 250 = some (.int) := by decide +kernel
theorem zd250_12 : decode (z_b 250) 12 = .ok (.ireturn, 1) := by decide +kernel
theorem zd0_965 : decode (z_b 0) 965 = .ok (.if_icmp .eq 810, 3) := by decide +kernel
theorem zd0_970 : decode (z_b 0) 970 = .ok (.aload_n 1, 1) := by decide +kernel
theorem zd0_971 : decode (z_b 0) 971 = .ok (.aload_n 0, 1) := by decide +kernel
theorem zd0_972 : decode (z_b 0) 972 = .ok (.iload_n 3, 1) := by decide +kernel
theorem zd0_973 : decode (z_b 0) 973 = .ok (.iconst 1, 1) := by decide +kernel
theorem zd0_974 : decode (z_b 0) 974 = .ok (.iadd, 1) := by decide +kernel
theorem zd0_975 : decode (z_b 0) 975 = .ok (.iaload, 1) := by decide +kernel
theorem zd0_976 : decode (z_b 0) 976 = .ok (.aload_n 0, 1) := by decide +kernel
theorem zd0_977 : decode (z_b 0) 977 = .ok (.iload_n 3, 1) := by decide +kernel
theorem zd0_978 : decode (z_b 0) 978 = .ok (.iconst 2, 1) := by decide +kernel
theorem zd0_979 : decode (z_b 0) 979 = .ok (.iadd, 1) := by decide +kernel
theorem zd0_980 : decode (z_b 0) 980 = .ok (.iaload, 1) := by decide +kernel
theorem zd0_981 : decode (z_b 0) 981 = .ok (.aload_n 0, 1) := by decide +kernel
theorem zd0_982 : decode (z_b 0) 982 = .ok (.iload_n 3, 1) := by decide +kernel
theorem zd0_983 : decode (z_b 0) 983 = .ok (.iconst 3, 1) := by decide +kernel
theorem zd0_984 : decode (z_b 0) 984 = .ok (.iadd, 1) := by decide +kernel
theorem zd0_985 : decode (z_b 0) 985 = .ok (.iaload, 1) := by decide +kernel
theorem zd0_986 : decode (z_b 0) 986 = .ok (.aload_n 0, 1) := by decide +kernel
theorem zd0_987 : decode (z_b 0) 987 = .ok (.iload_n 3, 1) := by decide +kernel
theorem zd0_988 : decode (z_b 0) 988 = .ok (.iconst 4, 1) := by decide +kernel
theorem zd0_989 : decode (z_b 0) 989 = .ok (.iadd, 1) := by decide +kernel
theorem zd0_990 : decode (z_b 0) 990 = .ok (.iaload, 1) := by decide +kernel
theorem zcV0_98 : (z_find z_cV (z_oc 0) 98).map (·.1) = some (1, 4, [(0, 106)]) := by decide +kernel
theorem zd0_991 : decode (z_b 0) 991 = .ok (.invokevirtual 98, 3) := by decide +kernel
theorem zm106 : z_ml 106 = 7 := by decide +kernel
theorem zd106_0 : decode (z_b 106) 0 = .ok (.aload_n 0, 1) := by decide +kernel
theorem zd106_1 : decode (z_b 106) 1 = .ok (.iload_n 1, 1) := by decide +kernel
theorem zcV106_221 : (z_find z_cV (z_oc 106) 221).map (·.1) = some (1, 1, [(0, 84)]) := by decide +kernel
theorem zd106_2 : decode (z_b 106) 2 = .ok (.invokevirtual 221, 3) := by decide +kernel
theorem zd106_5 : decode (z_b 106) 5 = .ok (.astore 5, 2) := by decide +kernel
theorem zd106_7 : decode (z_b 106) 7 = .ok (.aload 5, 2) := by decide +kernel
theorem zd106_9 : decode (z_b 106) 9 = .ok (.ifnull 11, 3) := by decide +kernel
theorem zd106_20 : decode (z_b 106) 20 = .ok (.iconst (-1), 1) := by decide +kernel
theorem zr106 : z_rt 106 = some (.int) := by decide +kernel
theorem zd106_21 : decode (z_b 106) 21 = .ok (.ireturn, 1) := by decide +kernel
theorem zd0_994 : decode (z_b 0) 994 = .ok (.aload_n 2, 1) := by decide +kernel
theorem zd0_995 : decode (z_b 0) 995 = .ok (.aload_n 0, 1) := by decide +kernel
theorem zd0_996 : decode (z_b 0) 996 = .ok (.iload_n 3, 1) := by decide +kernel
theorem zd0_997 : decode (z_b 0) 997 = .ok (.iconst 1, 1) := by decide +kernel
theorem zd0_998 : decode (z_b 0) 998 = .ok (.iadd, 1) := by decide +kernel
theorem zd0_999 : decode (z_b 0) 999 = .ok (.iaload, 1) := by decide +kernel
theorem zd0_1000 : decode (z_b 0) 1000 = .ok (.aload_n 0, 1) := by decide +kernel
theorem zd0_1001 : decode (z_b 0) 1001 = .ok (.iload_n 3, 1) := by decide +kernel
theorem zd0_1002 : decode (z_b 0) 1002 = .ok (.iconst 2, 1) := by decide +kernel
theorem zd0_1003 : decode (z_b 0) 1003 = .ok (.iadd, 1) := by decide +kernel
theorem zd0_1004 : decode (z_b 0) 1004 = .ok (.iaload, 1) := by decide +kernel
theorem zd0_1005 : decode (z_b 0) 1005 = .ok (.aload_n 0, 1) := by decide +kernel
theorem zd0_1006 : decode (z_b 0) 1006 = .ok (.iload_n 3, 1) := by decide +kernel
theorem zd0_1007 : decode (z_b 0) 1007 = .ok (.iconst 3, 1) := by decide +kernel
theorem zd0_1008 : decode (z_b 0) 1008 = .ok (.iadd, 1) := by decide +kernel
theorem zd0_1009 : decode (z_b 0) 1009 = .ok (.iaload, 1) := by decide +kernel
theorem zd0_1010 : decode (z_b 0) 1010 = .ok (.aload_n 0, 1) := by decide +kernel
theorem zd0_1011 : decode (z_b 0) 1011 = .ok (.iload_n 3, 1) := by decide +kernel
theorem zd0_1012 : decode (z_b 0) 1012 = .ok (.iconst 4, 1) := by decide +kernel
theorem zd0_1013 : decode (z_b 0) 1013 = .ok (.iadd, 1) := by decide +kernel
theorem zd0_1014 : decode (z_b 0) 1014 = .ok (.iaload, 1) := by decide +kernel
theorem zcV0_101 : (z_find z_cV (z_oc 0) 101).map (·.1) = some (1, 4, [(12, 256)]) := by decide +kernel
theorem zd0_1015 : decode (z_b 0) 1015 = .ok (.invokevirtual 101, 3) := by decide +kernel
theorem zm256 : z_ml 256 = 10 := by decide +kernel
theorem zd256_0 : decode (z_b 256) 0 = .ok (.aload_n 0, 1) := by decide +kernel
theorem zd256_1 : decode (z_b 256) 1 = .ok (.iload_n 1, 1) := by decide +kernel
theorem zcV256_272 : (z_find z_cV (z_oc 256) 272).map (·.1) = some (1, 1, [(12, 237)]) := by decide +kernel
theorem zd256_2 : decode (z_b 256) 2 = .ok (.invokevirtual 272, 3) := by decide +kernel
theorem zd256_5 : decode (z_b 256) 5 = .ok (.ifCond .eq 14, 3) := by decide +kernel
theorem zd256_19 : decode (z_b 256) 19 = .ok (.iconst (-1), 1) := by decide +kernel
theorem zr256 : z_rt 256 = some (.int) := by decide +kernel
theorem zd256_20 : decode (z_b 256) 20 = .ok (.ireturn, 1) := by decide +kernel
theorem zd0_1018 : decode (z_b 0) 1018 = .ok (.if_icmp .eq 757, 3) := by decide +kernel
theorem zd0_1023 : decode (z_b 0) 1023 = .ok (.aload_n 1, 1) := by decide +kernel
theorem zd0_1024 : decode (z_b 0) 1024 = .ok (.aload_n 0, 1) := by decide +kernel
theorem zd0_1025 : decode (z_b 0) 1025 = .ok (.iload_n 3, 1) := by decide +kernel
theorem zd0_1026 : decode (z_b 0) 1026 = .ok (.iconst 1, 1) := by decide +kernel
theorem zd0_1027 : decode (z_b 0) 1027 = .ok (.iadd, 1) := by decide +kernel
theorem zd0_1028 : decode (z_b 0) 1028 = .ok (.iaload, 1) := by decide +kernel
theorem zd0_1029 : decode (z_b 0) 1029 = .ok (.aload_n 0, 1) := by decide +kernel
theorem zd0_1030 : decode (z_b 0) 1030 = .ok (.iload_n 3, 1) := by decide +kernel
theorem zd0_1031 : decode (z_b 0) 1031 = .ok (.iconst 2, 1) := by decide +kernel
theorem zd0_1032 : decode (z_b 0) 1032 = .ok (.iadd, 1) := by decide +kernel
theorem zd0_1033 : decode (z_b 0) 1033 = .ok (.iaload, 1) := by decide +kernel
theorem zd0_1034 : decode (z_b 0) 1034 = .ok (.aload_n 0, 1) := by decide +kernel
theorem zd0_1035 : decode (z_b 0) 1035 = .ok (.iload_n 3, 1) := by decide +kernel
theorem zd0_1036 : decode (z_b 0) 1036 = .ok (.iconst 3, 1) := by decide +kernel
theorem zd0_1037 : decode (z_b 0) 1037 = .ok (.iadd, 1) := by decide +kernel
theorem zd0_1038 : decode (z_b 0) 1038 = .ok (.iaload, 1) := by decide +kernel
theorem zd0_1039 : decode (z_b 0) 1039 = .ok (.aload_n 0, 1) := by decide +kernel
theorem zd0_1040 : decode (z_b 0) 1040 = .ok (.iload_n 3, 1) := by decide +kernel
theorem zd0_1041 : decode (z_b 0) 1041 = .ok (.iconst 4, 1) := by decide +kernel
theorem zd0_1042 : decode (z_b 0) 1042 = .ok (.iadd, 1) := by decide +kernel
theorem zd0_1043 : decode (z_b 0) 1043 = .ok (.iaload, 1) := by decide +kernel
theorem zd0_1044 : decode (z_b 0) 1044 = .ok (.aload_n 0, 1) := by decide +kernel
theorem zd0_1045 : decode (z_b 0) 1045 = .ok (.iload_n 3, 1) := by decide +kernel
theorem zd0_1046 : decode (z_b 0) 1046 = .ok (.iconst 5, 1) := by decide +kernel
theorem zd0_1047 : decode (z_b 0) 1047 = .ok (.iadd, 1) := by decide +kernel
theorem zd0_1048 : decode (z_b 0) 1048 = .ok (.iaload, 1) := by decide +kernel
theorem zcV0_102 : (z_find z_cV (z_oc 0) 102).map (·.1) = some (1, 5, [(0, 112)]) := by decide +kernel
theorem zd0_1049 : decode (z_b 0) 1049 = .ok (.invokevirtual 102, 3) := by decide +kernel
theorem zm112 : z_ml 112 = 9 := by decide +kernel
theorem zd112_0 : decode (z_b 112) 0 = .ok (.aload_n 0, 1) := by decide +kernel
theorem zd112_1 : decode (z_b 112) 1 = .ok (.iload_n 1, 1) := by decide +kernel
theorem zcV112_221 : (z_find z_cV (z_oc 112) 221).map (·.1) = some (1, 1, [(0, 84)]) := by decide +kernel
theorem zd112_2 : decode (z_b 112) 2 = .ok (.invokevirtual 221, 3) := by decide +kernel
theorem zd112_5 : decode (z_b 112) 5 = .ok (.astore 6, 2) := by decide +kernel
theorem zd112_7 : decode (z_b 112) 7 = .ok (.aload_n 0, 1) := by decide +kernel
theorem zd112_8 : decode (z_b 112) 8 = .ok (.iload_n 2, 1) := by decide +kernel
theorem zd112_9 : decode (z_b 112) 9 = .ok (.invokevirtual 221, 3) := by decide +kernel
theorem zd112_12 : decode (z_b 112) 12 = .ok (.astore 7, 2) := by decide +kernel
theorem zd112_14 : decode (z_b 112) 14 = .ok (.aload 6, 2) := by decide +kernel
theorem zd112_16 : decode (z_b 112) 16 = .ok (.ifnull 16, 3) := by decide +kernel
theorem zd112_32 : decode (z_b 112) 32 = .ok (.iconst (-1), 1) := by decide +kernel
theorem zr112 : z_rt 112 = some (.int) := by decide +kernel
theorem zd112_33 : decode (z_b 112) 33 = .ok (.ireturn, 1) := by decide +kernel
theorem zd0_1052 : decode (z_b 0) 1052 = .ok (.aload_n 2, 1) := by decide +kernel
theorem zd0_1053 : decode (z_b 0) 1053 = .ok (.aload_n 0, 1) := by decide +kernel
theorem zd0_1054 : decode (z_b 0) 1054 = .ok (.iload_n 3, 1) := by decide +kernel
theorem zd0_1055 : decode (z_b 0) 1055 = .ok (.iconst 1, 1) := by decide +kernel
theorem zd0_1056 : decode (z_b 0) 1056 = .ok (.iadd, 1) := by decide +kernel
theorem zd0_1057 : decode (z_b 0) 1057 = .ok (.iaload, 1) := by decide +kernel
theorem zd0_1058 : decode (z_b 0) 1058 = .ok (.aload_n 0, 1) := by decide +kernel
theorem zd0_1059 : decode (z_b 0) 1059 = .ok (.iload_n 3, 1) := by decide +kernel
theorem zd0_1060 : decode (z_b 0) 1060 = .ok (.iconst 2, 1) := by decide +kernel
theorem zd0_1061 : decode (z_b 0) 1061 = .ok (.iadd, 1) := by decide +kernel
theorem zd0_1062 : decode (z_b 0) 1062 = .ok (.iaload, 1) := by decide +kernel
theorem zd0_1063 : decode (z_b 0) 1063 = .ok (.aload_n 0, 1) := by decide +kernel
theorem zd0_1064 : decode (z_b 0) 1064 = .ok (.iload_n 3, 1) := by decide +kernel
theorem zd0_1065 : decode (z_b 0) 1065 = .ok (.iconst 3, 1) := by decide +kernel
theorem zd0_1066 : decode (z_b 0) 1066 = .ok (.iadd, 1) := by decide +kernel
theorem zd0_1067 : decode (z_b 0) 1067 = .ok (.iaload, 1) := by decide +kernel
theorem zd0_1068 : decode (z_b 0) 1068 = .ok (.aload_n 0, 1) := by decide +kernel
theorem zd0_1069 : decode (z_b 0) 1069 = .ok (.iload_n 3, 1) := by decide +kernel
theorem zd0_1070 : decode (z_b 0) 1070 = .ok (.iconst 4, 1) := by decide +kernel
theorem zd0_1071 : decode (z_b 0) 1071 = .ok (.iadd, 1) := by decide +kernel
theorem zd0_1072 : decode (z_b 0) 1072 = .ok (.iaload, 1) := by decide +kernel
theorem zd0_1073 : decode (z_b 0) 1073 = .ok (.aload_n 0, 1) := by decide +kernel
theorem zd0_1074 : decode (z_b 0) 1074 = .ok (.iload_n 3, 1) := by decide +kernel
theorem zd0_1075 : decode (z_b 0) 1075 = .ok (.iconst 5, 1) := by decide +kernel
theorem zd0_1076 : decode (z_b 0) 1076 = .ok (.iadd, 1) := by decide +kernel
theorem zd0_1077 : decode (z_b 0) 1077 = .ok (.iaload, 1) := by decide +kernel
theorem zcV0_106 : (z_find z_cV (z_oc 0) 106).map (·.1) = some (1, 5, [(12, 258)]) := by decide +kernel
theorem zd0_1078 : decode (z_b 0) 1078 = .ok (.invokevirtual 106, 3) := by decide +kernel
theorem zm258 : z_ml 258 = 13 := by decide +kernel
theorem zd258_0 : decode (z_b 258) 0 = .ok (.aload_n 0, 1) := by decide +kernel
theorem zd258_1 : decode (z_b 258) 1 = .ok (.iload_n 1, 1) := by decide +kernel
theorem zcV258_272 : (z_find z_cV (z_oc 258) 272).map (·.1) = some (1, 1, [(12, 237)]) := by decide +kernel
theorem zd258_2 : decode (z_b 258) 2 = .ok (.invokevirtual 272, 3) := by decide +kernel
theorem zd258_5 : decode (z_b 258) 5 = .ok (.ifCond .eq 22, 3) := by decide +kernel
theorem zd258_27 : decode (z_b 258) 27 = .ok (.iconst (-1), 1) := by decide +kernel
theorem zr258 : z_rt 258 = some (.int) := by decide +kernel
theorem zd258_28 : decode (z_b 258) 28 = .ok (.ireturn, 1) := by decide +kernel
theorem zd0_1081 : decode (z_b 0) 1081 = .ok (.if_icmp .eq 694, 3) := by decide +kernel
theorem zd0_1086 : decode (z_b 0) 1086 = .ok (.aload_n 1, 1) := by decide +kernel
theorem zd0_1087 : decode (z_b 0) 1087 = .ok (.aload_n 0, 1) := by decide +kernel
theorem zd0_1088 : decode (z_b 0) 1088 = .ok (.iload_n 3, 1) := by decide +kernel
theorem zd0_1089 : decode (z_b 0) 1089 = .ok (.iconst 1, 1) := by decide +kernel
theorem zd0_1090 : decode (z_b 0) 1090 = .ok (.iadd, 1) := by decide +kernel
theorem zd0_1091 : decode (z_b 0) 1091 = .ok (.iaload, 1) := by decide +kernel
theorem zd0_1092 : decode (z_b 0) 1092 = .ok (.aload_n 0, 1) := by decide +kernel
theorem zd0_1093 : decode (z_b 0) 1093 = .ok (.iload_n 3, 1) := by decide +kernel
theorem zd0_1094 : decode (z_b 0) 1094 = .ok (.iconst 2, 1) := by decide +kernel
theorem zd0_1095 : decode (z_b 0) 1095 = .ok (.iadd, 1) := by decide +kernel
theorem zd0_1096 : decode (z_b 0) 1096 = .ok (.iaload, 1) := by decide +kernel
theorem zd0_1097 : decode (z_b 0) 1097 = .ok (.aload_n 0, 1) := by decide +kernel
theorem zd0_1098 : decode (z_b 0) 1098 = .ok (.iload_n 3, 1) := by decide +kernel
theorem zd0_1099 : decode (z_b 0) 1099 = .ok (.iconst 3, 1) := by decide +kernel
theorem zd0_1100 : decode (z_b 0) 1100 = .ok (.iadd, 1) := by decide +kernel
theorem zd0_1101 : decode (z_b 0) 1101 = .ok (.iaload, 1) := by decide +kernel
theorem zd0_1102 : decode (z_b 0) 1102 = .ok (.aload_n 0, 1) := by decide +kernel
theorem zd0_1103 : decode (z_b 0) 1103 = .ok (.iload_n 3, 1) := by decide +kernel
theorem zd0_1104 : decode (z_b 0) 1104 = .ok (.iconst 4, 1) := by decide +kernel
theorem zd0_1105 : decode (z_b 0) 1105 = .ok (.iadd, 1) := by decide +kernel
theorem zd0_1106 : decode (z_b 0) 1106 = .ok (.iaload, 1) := by decide +kernel
theorem zcV0_107 : (z_find z_cV (z_oc 0) 107).map (·.1) = some (1, 4, [(0, 114)]) := by decide +kernel
theorem zd0_1107 : decode (z_b 0) 1107 = .ok (.invokevirtual 107, 3) := by decide +kernel
theorem zm114 : z_ml 114 = 8 := by decide +kernel
theorem zd114_0 : decode (z_b 114) 0 = .ok (.aload_n 0, 1) := by decide +kernel
theorem zd114_1 : decode (z_b 114) 1 = .ok (.iload_n 1, 1) := by decide +kernel
theorem zcV114_221 : (z_find z_cV (z_oc 114) 221).map (·.1) = some (1, 1, [(0, 84)]) := by decide +kernel
theorem zd114_2 : decode (z_b 114) 2 = .ok (.invokevirtual 221, 3) := by decide +kernel
theorem zd114_5 : decode (z_b 114) 5 = .ok (.astore 5, 2) := by decide +kernel
theorem zd114_7 : decode (z_b 114) 7 = .ok (.aload_n 0, 1) := by decide +kernel
theorem zd114_8 : decode (z_b 114) 8 = .ok (.iload_n 2, 1) := by decide +kernel
theorem zcV114_108 : (z_find z_cV (z_oc 114) 108).map (·.1) = some (1, 1, [(0, 37)]) := by decide +kernel
theorem zd114_9 : decode (z_b 114) 9 = .ok (.invokevirtual 108, 3) := by decide +kernel
theorem zd114_12 : decode (z_b 114) 12 = .ok (.astore 6, 2) := by decide +kernel
theorem zd114_14 : decode (z_b 114) 14 = .ok (.aload 5, 2) := by decide +kernel
theorem zd114_16 : decode (z_b 114) 16 = .ok (.ifnull 18, 3) := by decide +kernel
theorem zd114_34 : decode (z_b 114) 34 = .ok (.iconst (-1), 1) := by decide +kernel
theorem zr114 : z_rt 114 = some (.int) := by decide +kernel
theorem zd114_35 : decode (z_b 114) 35 = .ok (.ireturn, 1) := by decide +kernel
theorem zd0_1110 : decode (z_b 0) 1110 = .ok (.aload_n 2, 1) := by decide +kernel
theorem zd0_1111 : decode (z_b 0) 1111 = .ok (.aload_n 0, 1) := by decide +kernel
theorem zd0_1112 : decode (z_b 0) 1112 = .ok (.iload_n 3, 1) := by decide +kernel
theorem zd0_1113 : decode (z_b 0) 1113 = .ok (.iconst 1, 1) := by decide +kernel
theorem zd0_1114 : decode (z_b 0) 1114 = .ok (.iadd, 1) := by decide +kernel
theorem zd0_1115 : decode (z_b 0) 1115 = .ok (.iaload, 1) := by decide +kernel
theorem zd0_1116 : decode (z_b 0) 1116 = .ok (.aload_n 0, 1) := by decide +kernel
theorem zd0_1117 : decode (z_b 0) 1117 = .ok (.iload_n 3, 1) := by decide +kernel
theorem zd0_1118 : decode (z_b 0) 1118 = .ok (.iconst 2, 1) := by decide +kernel
theorem zd0_1119 : decode (z_b 0) 1119 = .ok (.iadd, 1) := by decide +kernel
theorem zd0_1120 : decode (z_b 0) 1120 = .ok (.iaload, 1) := by decide +kernel
theorem zd0_1121 : decode (z_b 0) 1121 = .ok (.aload_n 0, 1) := by decide +kernel
theorem zd0_1122 : decode (z_b 0) 1122 = .ok (.iload_n 3, 1) := by decide +kernel
theorem zd0_1123 : decode (z_b 0) 1123 = .ok (.iconst 3, 1) := by decide +kernel
theorem zd0_1124 : decode (z_b 0) 1124 = .ok (.iadd, 1) := by decide +kernel
theorem zd0_1125 : decode (z_b 0) 1125 = .ok (.iaload, 1) := by decide +kernel
theorem zd0_1126 : decode (z_b 0) 1126 = .ok (.aload_n 0, 1) := by decide +kernel
theorem zd0_1127 : decode (z_b 0) 1127 = .ok (.iload_n 3, 1) := by decide +kernel
theorem zd0_1128 : decode (z_b 0) 1128 = .ok (.iconst 4, 1) := by decide +kernel
theorem zd0_1129 : decode (z_b 0) 1129 = .ok (.iadd, 1) := by decide +kernel
theorem zd0_1130 : decode (z_b 0) 1130 = .ok (.iaload, 1) := by decide +kernel
theorem zcV0_110 : (z_find z_cV (z_oc 0) 110).map (·.1) = some (1, 4, [(12, 259)]) := by decide +kernel
theorem zd0_1131 : decode (z_b 0) 1131 = .ok (.invokevirtual 110, 3) := by decide +kernel
theorem zm259 : z_ml 259 = 8 := by decide +kernel
theorem zd259_0 : decode (z_b 259) 0 = .ok (.aload_n 0, 1) := by decide +kernel
theorem zd259_1 : decode (z_b 259) 1 = .ok (.iload_n 1, 1) := by decide +kernel
theorem zcV259_272 : (z_find z_cV (z_oc 259) 272).map (·.1) = some (1, 1, [(12, 237)]) := by decide +kernel
theorem zd259_2 : decode (z_b 259) 2 = .ok (.invokevirtual 272, 3) := by decide +kernel
theorem zd259_5 : decode (z_b 259) 5 = .ok (.ifCond .eq 33, 3) := by decide +kernel
theorem zd259_38 : decode (z_b 259) 38 = .ok (.iconst (-1), 1) := by decide +kernel
theorem zr259 : z_rt 259 = some (.int) := by decide +kernel
theorem zd259_39 : decode (z_b 259) 39 = .ok (.ireturn, 1) := by decide +kernel
theorem zd0_1134 : decode (z_b 0) 1134 = .ok (.if_icmp .eq 641, 3) := by decide +kernel
theorem zd0_1139 : decode (z_b 0) 1139 = .ok (.aload_n 1, 1) := by decide +kernel
theorem zd0_1140 : decode (z_b 0) 1140 = .ok (.aload_n 0, 1) := by decide +kernel
theorem zd0_1141 : decode (z_b 0) 1141 = .ok (.iload_n 3, 1) := by decide +kernel
theorem zd0_1142 : decode (z_b 0) 1142 = .ok (.iconst 1, 1) := by decide +kernel
theorem zd0_1143 : decode (z_b 0) 1143 = .ok (.iadd, 1) := by decide +kernel
theorem zd0_1144 : decode (z_b 0) 1144 = .ok (.iaload, 1) := by decide +kernel
theorem zd0_1145 : decode (z_b 0) 1145 = .ok (.aload_n 0, 1) := by decide +kernel
theorem zd0_1146 : decode (z_b 0) 1146 = .ok (.iload_n 3, 1) := by decide +kernel
theorem zd0_1147 : decode (z_b 0) 1147 = .ok (.iconst 2, 1) := by decide +kernel
theorem zd0_1148 : decode (z_b 0) 1148 = .ok (.iadd, 1) := by decide +kernel
theorem zd0_1149 : decode (z_b 0) 1149 = .ok (.iaload, 1) := by decide +kernel
theorem zd0_1150 : decode (z_b 0) 1150 = .ok (.aload_n 0, 1) := by decide +kernel
theorem zd0_1151 : decode (z_b 0) 1151 = .ok (.iload_n 3, 1) := by decide +kernel
theorem zd0_1152 : decode (z_b 0) 1152 = .ok (.iconst 3, 1) := by decide +kernel
theorem zd0_1153 : decode (z_b 0) 1153 = .ok (.iadd, 1) := by decide +kernel
theorem zd0_1154 : decode (z_b 0) 1154 = .ok (.iaload, 1) := by decide +kernel
theorem zcV0_111 : (z_find z_cV (z_oc 0) 111).map (·.1) = some (1, 3, [(0, 116)]) := by decide +kernel
theorem zd0_1155 : decode (z_b 0) 1155 = .ok (.invokevirtual 111, 3) := by decide +kernel
theorem zm116 : z_ml 116 = 6 := by decide +kernel
theorem zd116_0 : decode (z_b 116) 0 = .ok (.aload_n 0, 1) := by decide +kernel
theorem zd116_1 : decode (z_b 116) 1 = .ok (.iload_n 1, 1) := by decide +kernel
theorem zcV116_221 : (z_find z_cV (z_oc 116) 221).map (·.1) = some (1, 1, [(0, 84)]) := by decide +kernel
theorem zd116_2 : decode (z_b 116) 2 = .ok (.invokevirtual 221, 3) := by decide +kernel
theorem zd116_5 : decode (z_b 116) 5 = .ok (.astore 4, 2) := by decide +kernel
theorem zd116_7 : decode (z_b 116) 7 = .ok (.aload_n 0, 1) := by decide +kernel
theorem zd116_8 : decode (z_b 116) 8 = .ok (.iload_n 2, 1) := by decide +kernel
theorem zcV116_85 : (z_find z_cV (z_oc 116) 85).map (·.1) = some (1, 1, [(0, 35)]) := by decide +kernel
theorem zd116_9 : decode (z_b 116) 9 = .ok (.invokevirtual 85, 3) := by decide +kernel
theorem zd116_12 : decode (z_b 116) 12 = .ok (.astore 5, 2) := by decide +kernel
theorem zd116_14 : decode (z_b 116) 14 = .ok (.aload 4, 2) := by decide +kernel
theorem zd116_16 : decode (z_b 116) 16 = .ok (.ifnull 26, 3) := by decide +kernel
theorem zd116_42 : decode (z_b 116) 42 = .ok (.iconst (-1), 1) := by decide +kernel
theorem zr116 : z_rt 116 = some (.int) := by decide +kernel
theorem zd116_43 : decode (z_b 116) 43 = .ok (.ireturn, 1) := by decide +kernel
theorem zd0_1158 : decode (z_b 0) 1158 = .ok (.aload_n 2, 1) := by decide +kernel
theorem zd0_1159 : decode (z_b 0) 1159 = .ok (.aload_n 0, 1) := by decide +kernel
theorem zd0_1160 : decode (z_b 0) 1160 = .ok (.iload_n 3, 1) := by decide +kernel
theorem zd0_1161 : decode (z_b 0) 1161 = .ok (.iconst 1, 1) := by decide +kernel
theorem zd0_1162 : decode (z_b 0) 1162 = .ok (.iadd, 1) := by decide +kernel
theorem zd0_1163 : decode (z_b 0) 1163 = .ok (.iaload, 1) := by decide +kernel
theorem zd0_1164 : decode (z_b 0) 1164 = .ok (.aload_n 0, 1) := by decide +kernel
theorem zd0_1165 : decode (z_b 0) 1165 = .ok (.iload_n 3, 1) := by decide +kernel
theorem zd0_1166 : decode (z_b 0) 1166 = .ok (.iconst 2, 1) := by decide +kernel
theorem zd0_1167 : decode (z_b 0) 1167 = .ok (.iadd, 1) := by decide +kernel
theorem zd0_1168 : decode (z_b 0) 1168 = .ok (.iaload, 1) := by decide +kernel
theorem zd0_1169 : decode (z_b 0) 1169 = .ok (.aload_n 0, 1) := by decide +kernel
theorem zd0_1170 : decode (z_b 0) 1170 = .ok (.iload_n 3, 1) := by decide +kernel
theorem zd0_1171 : decode (z_b 0) 1171 = .ok (.iconst 3, 1) := by decide +kernel
theorem zd0_1172 : decode (z_b 0) 1172 = .ok (.iadd, 1) := by decide +kernel
theorem zd0_1173 : decode (z_b 0) 1173 = .ok (.iaload, 1) := by decide +kernel
theorem zcV0_114 : (z_find z_cV (z_oc 0) 114).map (·.1) = some (1, 3, [(12, 260)]) := by decide +kernel
theorem zd0_1174 : decode (z_b 0) 1174 = .ok (.invokevirtual 114, 3) := by decide +kernel
theorem zm260 : z_ml 260 = 4 := by decide +kernel
theorem zd260_0 : decode (z_b 260) 0 = .ok (.aload_n 0, 1) := by decide +kernel
theorem zd260_1 : decode (z_b 260) 1 = .ok (.iload_n 1, 1) := by decide +kernel
theorem zcV260_272 : (z_find z_cV (z_oc 260) 272).map (·.1) = some (1, 1, [(12, 237)]) := by decide +kernel
theorem zd260_2 : decode (z_b 260) 2 = .ok (.invokevirtual 272, 3) := by decide +kernel
theorem zd260_5 : decode (z_b 260) 5 = .ok (.ifCond .eq 12, 3) := by decide +kernel
theorem zd260_17 : decode (z_b 260) 17 = .ok (.iconst (-1), 1) := by decide +kernel
theorem zr260 : z_rt 260 = some (.int) := by decide +kernel
theorem zd260_18 : decode (z_b 260) 18 = .ok (.ireturn, 1) := by decide +kernel
theorem zd0_1177 : decode (z_b 0) 1177 = .ok (.if_icmp .eq 598, 3) := by decide +kernel
theorem zd0_1182 : decode (z_b 0) 1182 = .ok (.aload_n 1, 1) := by decide +kernel
theorem zd0_1183 : decode (z_b 0) 1183 = .ok (.aload_n 0, 1) := by decide +kernel
theorem zd0_1184 : decode (z_b 0) 1184 = .ok (.iload_n 3, 1) := by decide +kernel
theorem zd0_1185 : decode (z_b 0) 1185 = .ok (.iconst 1, 1) := by decide +kernel
theorem zd0_1186 : decode (z_b 0) 1186 = .ok (.iadd, 1) := by decide +kernel
theorem zd0_1187 : decode (z_b 0) 1187 = .ok (.iaload, 1) := by decide +kernel
theorem zd0_1188 : decode (z_b 0) 1188 = .ok (.aload_n 0, 1) := by decide +kernel
theorem zd0_1189 : decode (z_b 0) 1189 = .ok (.iload_n 3, 1) := by decide +kernel
theorem zd0_1190 : decode (z_b 0) 1190 = .ok (.iconst 2, 1) := by decide +kernel
theorem zd0_1191 : decode (z_b 0) 1191 = .ok (.iadd, 1) := by decide +kernel
theorem zd0_1192 : decode (z_b 0) 1192 = .ok (.iaload, 1) := by decide +kernel
theorem zd0_1193 : decode (z_b 0) 1193 = .ok (.aload_n 0, 1) := by decide +kernel
theorem zd0_1194 : decode (z_b 0) 1194 = .ok (.iload_n 3, 1) := by decide +kernel
theorem zd0_1195 : decode (z_b 0) 1195 = .ok (.iconst 3, 1) := by decide +kernel
theorem zd0_1196 : decode (z_b 0) 1196 = .ok (.iadd, 1) := by decide +kernel
theorem zd0_1197 : decode (z_b 0) 1197 = .ok (.iaload, 1) := by decide +kernel
theorem zcV0_115 : (z_find z_cV (z_oc 0) 115).map (·.1) = some (1, 3, [(0, 119)]) := by decide +kernel
theorem zd0_1198 : decode (z_b 0) 1198 = .ok (.invokevirtual 115, 3) := by decide +kernel
theorem zm119 : z_ml 119 = 6 := by decide +kernel
theorem zd119_0 : decode (z_b 119) 0 = .ok (.aload_n 0, 1) := by decide +kernel
theorem zd119_1 : decode (z_b 119) 1 = .ok (.iload_n 1, 1) := by decide +kernel
theorem zcV119_221 : (z_find z_cV (z_oc 119) 221).map (·.1) = some (1, 1, [(0, 84)]) := by decide +kernel
theorem zd119_2 : decode (z_b 119) 2 = .ok (.invokevirtual 221, 3) := by decide +kernel
theorem zd119_5 : decode (z_b 119) 5 = .ok (.astore 4, 2) := by decide +kernel
theorem zd119_7 : decode (z_b 119) 7 = .ok (.aload 4, 2) := by decide +kernel
theorem zd119_9 : decode (z_b 119) 9 = .ok (.ifnonnull 5, 3) := by decide +kernel
theorem zd119_12 : decode (z_b 119) 12 = .ok (.iconst (-1), 1) := by decide +kernel
theorem zr119 : z_rt 119 = some (.int) := by decide +kernel
theorem zd119_13 : decode (z_b 119) 13 = .ok (.ireturn, 1) := by decide +kernel
theorem zd0_1201 : decode (z_b 0) 1201 = .ok (.aload_n 2, 1) := by decide +kernel
theorem zd0_1202 : decode (z_b 0) 1202 = .ok (.aload_n 0, 1) := by decide +kernel
theorem zd0_1203 : decode (z_b 0) 1203 = .ok (.iload_n 3, 1) := by decide +kernel
theorem zd0_1204 : decode (z_b 0) 1204 = .ok (.iconst 1, 1) := by decide +kernel
theorem zd0_1205 : decode (z_b 0) 1205 = .ok (.iadd, 1) := by decide +kernel
theorem zd0_1206 : decode (z_b 0) 1206 = .ok (.iaload, 1) := by decide +kernel
theorem zd0_1207 : decode (z_b 0) 1207 = .ok (.aload_n 0, 1) := by decide +kernel
theorem zd0_1208 : decode (z_b 0) 1208 = .ok (.iload_n 3, 1) := by decide +kernel
theorem zd0_1209 : decode (z_b 0) 1209 = .ok (.iconst 2, 1) := by decide +kernel
theorem zd0_1210 : decode (z_b 0) 1210 = .ok (.iadd, 1) := by decide +kernel
theorem zd0_1211 : decode (z_b 0) 1211 = .ok (.iaload, 1) := by decide +kernel
theorem zd0_1212 : decode (z_b 0) 1212 = .ok (.aload_n 0, 1) := by decide +kernel
theorem zd0_1213 : decode (z_b 0) 1213 = .ok (.iload_n 3, 1) := by decide +kernel
theorem zd0_1214 : decode (z_b 0) 1214 = .ok (.iconst 3, 1) := by decide +kernel
theorem zd0_1215 : decode (z_b 0) 1215 = .ok (.iadd, 1) := by decide +kernel
theorem zd0_1216 : decode (z_b 0) 1216 = .ok (.iaload, 1) := by decide +kernel
theorem zcV0_118 : (z_find z_cV (z_oc 0) 118).map (·.1) = some (1, 3, [(12, 263)]) := by decide +kernel
theorem zd0_1217 : decode (z_b 0) 1217 = .ok (.invokevirtual 118, 3) := by decide +kernel
theorem zm263 : z_ml 263 = 9 := by decide +kernel
theorem zd263_0 : decode (z_b 263) 0 = .ok (.aload_n 0, 1) := by decide +kernel
theorem zd263_1 : decode (z_b 263) 1 = .ok (.iload_n 1, 1) := by decide +kernel
theorem zcV263_272 : (z_find z_cV (z_oc 263) 272).map (·.1) = some (1, 1, [(12, 237)]) := by decide +kernel
theorem zd263_2 : decode (z_b 263) 2 = .ok (.invokevirtual 272, 3) := by decide +kernel
theorem zd263_5 : decode (z_b 263) 5 = .ok (.ifCond .ne 5, 3) := by decide +kernel
theorem zd263_8 : decode (z_b 263) 8 = .ok (.iconst (-1), 1) := by decide +kernel
theorem zr263 : z_rt 263 = some (.int) := by decide +kernel
theorem zd263_9 : decode (z_b 263) 9 = .ok (.ireturn, 1) := by decide +kernel
theorem zd0_1220 : decode (z_b 0) 1220 = .ok (.if_icmp .eq 555, 3) := by decide +kernel
theorem zd0_1225 : decode (z_b 0) 1225 = .ok (.aload_n 1, 1) := by decide +kernel
theorem zd0_1226 : decode (z_b 0) 1226 = .ok (.aload_n 0, 1) := by decide +kernel
theorem zd0_1227 : decode (z_b 0) 1227 = .ok (.iload_n 3, 1) := by decide +kernel
theorem zd0_1228 : decode (z_b 0) 1228 = .ok (.iconst 1, 1) := by decide +kernel
theorem zd0_1229 : decode (z_b 0) 1229 = .ok (.iadd, 1) := by decide +kernel
theorem zd0_1230 : decode (z_b 0) 1230 = .ok (.iaload, 1) := by decide +kernel
theorem zd0_1231 : decode (z_b 0) 1231 = .ok (.aload_n 0, 1) := by decide +kernel
theorem zd0_1232 : decode (z_b 0) 1232 = .ok (.iload_n 3, 1) := by decide +kernel
theorem zd0_1233 : decode (z_b 0) 1233 = .ok (.iconst 2, 1) := by decide +kernel
theorem zd0_1234 : decode (z_b 0) 1234 = .ok (.iadd, 1) := by decide +kernel
theorem zd0_1235 : decode (z_b 0) 1235 = .ok (.iaload, 1) := by decide +kernel
theorem zd0_1236 : decode (z_b 0) 1236 = .ok (.aload_n 0, 1) := by decide +kernel
theorem zd0_1237 : decode (z_b 0) 1237 = .ok (.iload_n 3, 1) := by decide +kernel
theorem zd0_1238 : decode (z_b 0) 1238 = .ok (.iconst 3, 1) := by decide +kernel
theorem zd0_1239 : decode (z_b 0) 1239 = .ok (.iadd, 1) := by decide +kernel
theorem zd0_1240 : decode (z_b 0) 1240 = .ok (.iaload, 1) := by decide +kernel
theorem zd0_1241 : decode (z_b 0) 1241 = .ok (.aload_n 0, 1) := by decide +kernel
theorem zd0_1242 : decode (z_b 0) 1242 = .ok (.iload_n 3, 1) := by decide +kernel
theorem zd0_1243 : decode (z_b 0) 1243 = .ok (.iconst 4, 1) := by decide +kernel
theorem zd0_1244 : decode (z_b 0) 1244 = .ok (.iadd, 1) := by decide +kernel
theorem zd0_1245 : decode (z_b 0) 1245 = .ok (.iaload, 1) := by decide +kernel
theorem zcV0_119 : (z_find z_cV (z_oc 0) 119).map (·.1) = some (1, 4, [(0, 129)]) := by decide +kernel
theorem zd0_1246 : decode (z_b 0) 1246 = .ok (.invokevirtual 119, 3) := by decide +kernel
theorem zm129 : z_ml 129 = 7 := by decide +kernel
theorem zd129_0 : decode (z_b 129) 0 = .ok (.aload_n 0, 1) := by decide +kernel
theorem zd129_1 : decode (z_b 129) 1 = .ok (.iload_n 1, 1) := by decide +kernel
theorem zcV129_221 : (z_find z_cV (z_oc 129) 221).map (·.1) = some (1, 1, [(0, 84)]) := by decide +kernel
theorem zd129_2 : decode (z_b 129) 2 = .ok (.invokevirtual 221, 3) := by decide +kernel
theorem zd129_5 : decode (z_b 129) 5 = .ok (.astore 5, 2) := by decide +kernel
theorem zd129_7 : decode (z_b 129) 7 = .ok (.aload 5, 2) := by decide +kernel
theorem zd129_9 : decode (z_b 129) 9 = .ok (.ifnull 14, 3) := by decide +kernel
theorem zd129_23 : decode (z_b 129) 23 = .ok (.iconst (-1), 1) := by decide +kernel
theorem zr129 : z_rt 129 = some (.int) := by decide +kernel
theorem zd129_24 : decode (z_b 129) 24 = .ok (.ireturn, 1) := by decide +kernel
theorem zd0_1249 : decode (z_b 0) 1249 = .ok (.aload_n 2, 1) := by decide +kernel
theorem zd0_1250 : decode (z_b 0) 1250 = .ok (.aload_n 0, 1) := by decide +kernel
theorem zd0_1251 : decode (z_b 0) 1251 = .ok (.iload_n 3, 1) := by decide +kernel
theorem zd0_1252 : decode (z_b 0) 1252 = .ok (.iconst 1, 1) := by decide +kernel
theorem zd0_1253 : decode (z_b 0) 1253 = .ok (.iadd, 1) := by decide +kernel
theorem zd0_1254 : decode (z_b 0) 1254 = .ok (.iaload, 1) := by decide +kernel
theorem zd0_1255 : decode (z_b 0) 1255 = .ok (.aload_n 0, 1) := by decide +kernel
theorem zd0_1256 : decode (z_b 0) 1256 = .ok (.iload_n 3, 1) := by decide +kernel
theorem zd0_1257 : decode (z_b 0) 1257 = .ok (.iconst 2, 1) := by decide +kernel
theorem zd0_1258 : decode (z_b 0) 1258 = .ok (.iadd, 1) := by decide +kernel
theorem zd0_1259 : decode (z_b 0) 1259 = .ok (.iaload, 1) := by decide +kernel
theorem zd0_1260 : decode (z_b 0) 1260 = .ok (.aload_n 0, 1) := by decide +kernel
theorem zd0_1261 : decode (z_b 0) 1261 = .ok (.iload_n 3, 1) := by decide +kernel
theorem zd0_1262 : decode (z_b 0) 1262 = .ok (.iconst 3, 1) := by decide +kernel
theorem zd0_1263 : decode (z_b 0) 1263 = .ok (.iadd, 1) := by decide +kernel
theorem zd0_1264 : decode (z_b 0) 1264 = .ok (.iaload, 1) := by decide +kernel
theorem zd0_1265 : decode (z_b 0) 1265 = .ok (.aload_n 0, 1) := by decide +kernel
theorem zd0_1266 : decode (z_b 0) 1266 = .ok (.iload_n 3, 1) := by decide +kernel
theorem zd0_1267 : decode (z_b 0) 1267 = .ok (.iconst 4, 1) := by decide +kernel
theorem zd0_1268 : decode (z_b 0) 1268 = .ok (.iadd, 1) := by decide +kernel
theorem zd0_1269 : decode (z_b 0) 1269 = .ok (.iaload, 1) := by decide +kernel
theorem zcV0_122 : (z_find z_cV (z_oc 0) 122).map (·.1) = some (1, 4, [(12, 264)]) := by decide +kernel
theorem zd0_1270 : decode (z_b 0) 1270 = .ok (.invokevirtual 122, 3) := by decide +kernel
theorem zm264 : z_ml 264 = 5 := by decide +kernel
theorem zd264_0 : decode (z_b 264) 0 = .ok (.aload_n 0, 1) := by decide +kernel
theorem zd264_1 : decode (z_b 264) 1 = .ok (.iload_n 1, 1) := by decide +kernel
theorem zcV264_272 : (z_find z_cV (z_oc 264) 272).map (·.1) = some (1, 1, [(12, 237)]) := by decide +kernel
theorem zd264_2 : decode (z_b 264) 2 = .ok (.invokevirtual 272, 3) := by decide +kernel
theorem zd264_5 : decode (z_b 264) 5 = .ok (.ifCond .eq 36, 3) := by decide +kernel
theorem zd264_41 : decode (z_b 264) 41 = .ok (.iconst (-1), 1) := by decide +kernel
theorem zr264 : z_rt 264 = some (.int) := by decide +kernel
theorem zd264_42 : decode (z_b 264) 42 = .ok (.ireturn, 1) := by decide +kernel
theorem zd0_1273 : decode (z_b 0) 1273 = .ok (.if_icmp .eq 502, 3) := by decide +kernel
theorem zd0_1278 : decode (z_b 0) 1278 = .ok (.aload_n 1, 1) := by decide +kernel
theorem zd0_1279 : decode (z_b 0) 1279 = .ok (.aload_n 0, 1) := by decide +kernel
theorem zd0_1280 : decode (z_b 0) 1280 = .ok (.iload_n 3, 1) := by decide +kernel
theorem zd0_1281 : decode (z_b 0) 1281 = .ok (.iconst 1, 1) := by decide +kernel
theorem zd0_1282 : decode (z_b 0) 1282 = .ok (.iadd, 1) := by decide +kernel
theorem zd0_1283 : decode (z_b 0) 1283 = .ok (.iaload, 1) := by decide +kernel
theorem zd0_1284 : decode (z_b 0) 1284 = .ok (.aload_n 0, 1) := by decide +kernel
theorem zd0_1285 : decode (z_b 0) 1285 = .ok (.iload_n 3, 1) := by decide +kernel
theorem zd0_1286 : decode (z_b 0) 1286 = .ok (.iconst 2, 1) := by decide +kernel
theorem zd0_1287 : decode (z_b 0) 1287 = .ok (.iadd, 1) := by decide +kernel
theorem zd0_1288 : decode (z_b 0) 1288 = .ok (.iaload, 1) := by decide +kernel
theorem zd0_1289 : decode (z_b 0) 1289 = .ok (.aload_n 0, 1) := by decide +kernel
theorem zd0_1290 : decode (z_b 0) 1290 = .ok (.iload_n 3, 1) := by decide +kernel
theorem zd0_1291 : decode (z_b 0) 1291 = .ok (.iconst 3, 1) := by decide +kernel
theorem zd0_1292 : decode (z_b 0) 1292 = .ok (.iadd, 1) := by decide +kernel
theorem zd0_1293 : decode (z_b 0) 1293 = .ok (.iaload, 1) := by decide +kernel
theorem zcV0_123 : (z_find z_cV (z_oc 0) 123).map (·.1) = some (1, 3, [(0, 144)]) := by decide +kernel
theorem zd0_1294 : decode (z_b 0) 1294 = .ok (.invokevirtual 123, 3) := by decide +kernel
theorem zm144 : z_ml 144 = 6 := by decide +kernel
theorem zd144_0 : decode (z_b 144) 0 = .ok (.iload_n 3, 1) := by decide +kernel
theorem zd144_1 : decode (z_b 144) 1 = .ok (.iconst 1, 1) := by decide +kernel
theorem zd144_2 : decode (z_b 144) 2 = .ok (.if_icmp .lt 9, 3) := by decide +kernel
theorem zd144_11 : decode (z_b 144) 11 = .ok (.iconst (-1), 1) := by decide +kernel
theorem zr144 : z_rt 144 = some (.int) := by decide +kernel
theorem zd144_12 : decode (z_b 144) 12 = .ok (.ireturn, 1) := by decide +kernel
theorem zd0_1297 : decode (z_b 0) 1297 = .ok (.aload_n 2, 1) := by decide +kernel
theorem zd0_1298 : decode (z_b 0) 1298 = .ok (.aload_n 0, 1) := by decide +kernel
theorem zd0_1299 : decode (z_b 0) 1299 = .ok (.iload_n 3, 1) := by decide +kernel
theorem zd0_1300 : decode (z_b 0) 1300 = .ok (.iconst 1, 1) := by decide +kernel
theorem zd0_1301 : decode (z_b 0) 1301 = .ok (.iadd, 1) := by decide +kernel
theorem zd0_1302 : decode (z_b 0) 1302 = .ok (.iaload, 1) := by decide +kernel
theorem zd0_1303 : decode (z_b 0) 1303 = .ok (.aload_n 0, 1) := by decide +kernel
theorem zd0_1304 : decode (z_b 0) 1304 = .ok (.iload_n 3, 1) := by decide +kernel
theorem zd0_1305 : decode (z_b 0) 1305 = .ok (.iconst 2, 1) := by decide +kernel
theorem zd0_1306 : decode (z_b 0) 1306 = .ok (.iadd, 1) := by decide +kernel
theorem zd0_1307 : decode (z_b 0) 1307 = .ok (.iaload, 1) := by decide +kernel
theorem zd0_1308 : decode (z_b 0) 1308 = .ok (.aload_n 0, 1) := by decide +kernel
theorem zd0_1309 : decode (z_b 0) 1309 = .ok (.iload_n 3, 1) := by decide +kernel
theorem zd0_1310 : decode (z_b 0) 1310 = .ok (.iconst 3, 1) := by decide +kernel
theorem zd0_1311 : decode (z_b 0) 1311 = .ok (.iadd, 1) := by decide +kernel
theorem zd0_1312 : decode (z_b 0) 1312 = .ok (.iaload, 1) := by decide +kernel
theorem zcV0_126 : (z_find z_cV (z_oc 0) 126).map (·.1) = some (1, 3, [(12, 271)]) := by decide +kernel
theorem zd0_1313 : decode (z_b 0) 1313 = .ok (.invokevirtual 126, 3) := by decide +kernel
theorem zm271 : z_ml 271 = 7 := by decide +kernel
theorem zd271_0 : decode (z_b 271) 0 = .ok (.aload_n 0, 1) := by decide +kernel
theorem zd271_1 : decode (z_b 271) 1 = .ok (.iload_n 1, 1) := by decide +kernel
theorem zcV271_209 : (z_find z_cV (z_oc 271) 209).map (·.1) = some (1, 1, [(12, 209)]) := by decide +kernel
theorem zd271_2 : decode (z_b 271) 2 = .ok (.invokevirtual 209, 3) := by decide +kernel
theorem zd271_5 : decode (z_b 271) 5 = .ok (.ifCond .eq 27, 3) := by decide +kernel
theorem zd271_32 : decode (z_b 271) 32 = .ok (.iconst (-1), 1) := by decide +kernel
theorem zr271 : z_rt 271 = some (.int) := by decide +kernel
theorem zd271_33 : decode (z_b 271) 33 = .ok (.ireturn, 1) := by decide +kernel
theorem zd0_1316 : decode (z_b 0) 1316 = .ok (.if_icmp .eq 459, 3) := by decide +kernel
theorem zd144_5 : decode (z_b 144) 5 = .ok (.iload_n 3, 1) := by decide +kernel
theorem zd144_6 : decode (z_b 144) 6 = .ok (.bipush 31, 2) := by decide +kernel
theorem zd144_8 : decode (z_b 144) 8 = .ok (.if_icmp .le 5, 3) := by decide +kernel
theorem zd144_13 : decode (z_b 144) 13 = .ok (.aload_n 0, 1) := by decide +kernel
theorem zd144_14 : decode (z_b 144) 14 = .ok (.iload_n 1, 1) := by decide +kernel
theorem zd144_15 : decode (z_b 144) 15 = .ok (.iload_n 2, 1) := by decide +kernel
theorem zcV144_274 : (z_find z_cV (z_oc 144) 274).map (·.1) = some (1, 2, [(0, 130)]) := by decide +kernel
theorem zd144_16 : decode (z_b 144) 16 = .ok (.invokevirtual 274, 3) := by decide +kernel
theorem zm130 : z_ml 130 = 4 := by decide +kernel
theorem zd130_0 : decode (z_b 130) 0 = .ok (.aload_n 0, 1) := by decide +kernel
theorem zd130_1 : decode (z_b 130) 1 = .ok (.iload_n 1, 1) := by decide +kernel
theorem zcV130_108 : (z_find z_cV (z_oc 130) 108).map (·.1) = some (1, 1, [(0, 37)]) := by decide +kernel
theorem zd130_2 : decode (z_b 130) 2 = .ok (.invokevirtual 108, 3) := by decide +kernel
theorem zd130_5 : decode (z_b 130) 5 = .ok (.astore_n 3, 1) := by decide +kernel
theorem zd130_6 : decode (z_b 130) 6 = .ok (.aload_n 3, 1) := by decide +kernel
theorem zd130_7 : decode (z_b 130) 7 = .ok (.ifnull 13, 3) := by decide +kernel
theorem zd130_20 : decode (z_b 130) 20 = .ok (.iconst (-1), 1) := by decide +kernel
theorem zr130 : z_rt 130 = some (.int) := by decide +kernel
theorem zd130_21 : decode (z_b 130) 21 = .ok (.ireturn, 1) := by decide +kernel
theorem zd144_19 : decode (z_b 144) 19 = .ok (.istore 4, 2) := by decide +kernel
theorem zd144_21 : decode (z_b 144) 21 = .ok (.iload 4, 2) := by decide +kernel
theorem zd144_23 : decode (z_b 144) 23 = .ok (.ifCond .eq 6, 3) := by decide +kernel
theorem zd144_26 : decode (z_b 144) 26 = .ok (.iload 4, 2) := by decide +kernel
theorem zd144_28 : decode (z_b 144) 28 = .ok (.ireturn, 1) := by decide +kernel
theorem zd0_1321 : decode (z_b 0) 1321 = .ok (.aload_n 1, 1) := by decide +kernel
theorem zd0_1322 : decode (z_b 0) 1322 = .ok (.aload_n 0, 1) := by decide +kernel
theorem zd0_1323 : decode (z_b 0) 1323 = .ok (.iload_n 3, 1) := by decide +kernel
theorem zd0_1324 : decode (z_b 0) 1324 = .ok (.iconst 1, 1) := by decide +kernel
theorem zd0_1325 : decode (z_b 0) 1325 = .ok (.iadd, 1) := by decide +kernel
theorem zd0_1326 : decode (z_b 0) 1326 = .ok (.iaload, 1) := by decide +kernel
theorem zd0_1327 : decode (z_b 0) 1327 = .ok (.aload_n 0, 1) := by decide +kernel
theorem zd0_1328 : decode (z_b 0) 1328 = .ok (.iload_n 3, 1) := by decide +kernel
theorem zd0_1329 : decode (z_b 0) 1329 = .ok (.iconst 2, 1) := by decide +kernel
theorem zd0_1330 : decode (z_b 0) 1330 = .ok (.iadd, 1) := by decide +kernel
theorem zd0_1331 : decode (z_b 0) 1331 = .ok (.iaload, 1) := by decide +kernel
theorem zd0_1332 : decode (z_b 0) 1332 = .ok (.aload_n 0, 1) := by decide +kernel
theorem zd0_1333 : decode (z_b 0) 1333 = .ok (.iload_n 3, 1) := by decide +kernel
theorem zd0_1334 : decode (z_b 0) 1334 = .ok (.iconst 3, 1) := by decide +kernel
theorem zd0_1335 : decode (z_b 0) 1335 = .ok (.iadd, 1) := by decide +kernel
theorem zd0_1336 : decode (z_b 0) 1336 = .ok (.iaload, 1) := by decide +kernel
theorem zcV0_127 : (z_find z_cV (z_oc 0) 127).map (·.1) = some (1, 3, [(0, 146)]) := by decide +kernel
theorem zd0_1337 : decode (z_b 0) 1337 = .ok (.invokevirtual 127, 3) := by decide +kernel
theorem zm146 : z_ml 146 = 5 := by decide +kernel
theorem zd146_0 : decode (z_b 146) 0 = .ok (.aload_n 0, 1) := by decide +kernel
theorem zd146_1 : decode (z_b 146) 1 = .ok (.iload_n 1, 1) := by decide +kernel
theorem zcV146_108 : (z_find z_cV (z_oc 146) 108).map (·.1) = some (1, 1, [(0, 37)]) := by decide +kernel
theorem zd146_2 : decode (z_b 146) 2 = .ok (.invokevirtual 108, 3) := by decide +kernel
theorem zd146_5 : decode (z_b 146) 5 = .ok (.astore 4, 2) := by decide +kernel
theorem zd146_7 : decode (z_b 146) 7 = .ok (.aload 4, 2) := by decide +kernel
theorem zd146_9 : decode (z_b 146) 9 = .ok (.ifnull 22, 3) := by decide +kernel
theorem zd146_31 : decode (z_b 146) 31 = .ok (.iconst (-1), 1) := by decide +kernel
theorem zr146 : z_rt 146 = some (.int) := by decide +kernel
theorem zd146_32 : decode (z_b 146) 32 = .ok (.ireturn, 1) := by decide +kernel
theorem zd0_1340 : decode (z_b 0) 1340 = .ok (.aload_n 2, 1) := by decide +kernel
theorem zd0_1341 : decode (z_b 0) 1341 = .ok (.aload_n 0, 1) := by decide +kernel
theorem zd0_1342 : decode (z_b 0) 1342 = .ok (.iload_n 3, 1) := by decide +kernel
theorem zd0_1343 : decode (z_b 0) 1343 = .ok (.iconst 1, 1) := by decide +kernel
theorem zd0_1344 : decode (z_b 0) 1344 = .ok (.iadd, 1) := by decide +kernel
theorem zd0_1345 : decode (z_b 0) 1345 = .ok (.iaload, 1) := by decide +kernel
theorem zd0_1346 : decode (z_b 0) 1346 = .ok (.aload_n 0, 1) := by decide +kernel
theorem zd0_1347 : decode (z_b 0) 1347 = .ok (.iload_n 3, 1) := by decide +kernel
theorem zd0_1348 : decode (z_b 0) 1348 = .ok (.iconst 2, 1) := by decide +kernel
theorem zd0_1349 : decode (z_b 0) 1349 = .ok (.iadd, 1) := by decide +kernel
theorem zd0_1350 : decode (z_b 0) 1350 = .ok (.iaload, 1) := by decide +kernel
theorem zd0_1351 : decode (z_b 0) 1351 = .ok (.aload_n 0, 1) := by decide +kernel
theorem zd0_1352 : decode (z_b 0) 1352 = .ok (.iload_n 3, 1) := by decide +kernel
theorem zd0_1353 : decode (z_b 0) 1353 = .ok (.iconst 3, 1) := by decide +kernel
theorem zd0_1354 : decode (z_b 0) 1354 = .ok (.iadd, 1) := by decide +kernel
theorem zd0_1355 : decode (z_b 0) 1355 = .ok (.iaload, 1) := by decide +kernel
theorem zcV0_130 : (z_find z_cV (z_oc 0) 130).map (·.1) = some (1, 3, [(12, 272)]) := by decide +kernel
theorem zd0_1356 : decode (z_b 0) 1356 = .ok (.invokevirtual 130, 3) := by decide +kernel
theorem zm272 : z_ml 272 = 8 := by decide +kernel
theorem zd272_0 : decode (z_b 272) 0 = .ok (.aload_n 0, 1) := by decide +kernel
theorem zd272_1 : decode (z_b 272) 1 = .ok (.iload_n 1, 1) := by decide +kernel
theorem zcV272_209 : (z_find z_cV (z_oc 272) 209).map (·.1) = some (1, 1, [(12, 209)]) := by decide +kernel
theorem zd272_2 : decode (z_b 272) 2 = .ok (.invokevirtual 209, 3) := by decide +kernel
theorem zd272_5 : decode (z_b 272) 5 = .ok (.ifCond .eq 27, 3) := by decide +kernel
theorem zd272_32 : decode (z_b 272) 32 = .ok (.iconst (-1), 1) := by decide +kernel
theorem zr272 : z_rt 272 = some (.int) := by decide +kernel
theorem zd272_33 : decode (z_b 272) 33 = .ok (.ireturn, 1) := by decide +kernel
theorem zd0_1359 : decode (z_b 0) 1359 = .ok (.if_icmp .eq 416, 3) := by decide +kernel
theorem zd0_1364 : decode (z_b 0) 1364 = .ok (.aload_n 1, 1) := by decide +kernel
theorem zd0_1365 : decode (z_b 0) 1365 = .ok (.aload_n 0, 1) := by decide +kernel
theorem zd0_1366 : decode (z_b 0) 1366 = .ok (.iload_n 3, 1) := by decide +kernel
theorem zd0_1367 : decode (z_b 0) 1367 = .ok (.iconst 1, 1) := by decide +kernel
theorem zd0_1368 : decode (z_b 0) 1368 = .ok (.iadd, 1) := by decide +kernel
theorem zd0_1369 : decode (z_b 0) 1369 = .ok (.iaload, 1) := by decide +kernel
theorem zd0_1370 : decode (z_b 0) 1370 = .ok (.aload_n 0, 1) := by decide +kernel
theorem zd0_1371 : decode (z_b 0) 1371 = .ok (.iload_n 3, 1) := by decide +kernel
theorem zd0_1372 : decode (z_b 0) 1372 = .ok (.iconst 2, 1) := by decide +kernel
theorem zd0_1373 : decode (z_b 0) 1373 = .ok (.iadd, 1) := by decide +kernel
theorem zd0_1374 : decode (z_b 0) 1374 = .ok (.iaload, 1) := by decide +kernel
theorem zd0_1375 : decode (z_b 0) 1375 = .ok (.aload_n 0, 1) := by decide +kernel
theorem zd0_1376 : decode (z_b 0) 1376 = .ok (.iload_n 3, 1) := by decide +kernel
theorem zd0_1377 : decode (z_b 0) 1377 = .ok (.iconst 3, 1) := by decide +kernel
theorem zd0_1378 : decode (z_b 0) 1378 = .ok (.iadd, 1) := by decide +kernel
theorem zd0_1379 : decode (z_b 0) 1379 = .ok (.iaload, 1) := by decide +kernel
theorem zcV0_131 : (z_find z_cV (z_oc 0) 131).map (·.1) = some (1, 3, [(0, 154)]) := by decide +kernel
theorem zd0_1380 : decode (z_b 0) 1380 = .ok (.invokevirtual 131, 3) := by decide +kernel
theorem zm154 : z_ml 154 = 5 := by decide +kernel
theorem zd154_0 : decode (z_b 154) 0 = .ok (.aload_n 0, 1) := by decide +kernel
theorem zd154_1 : decode (z_b 154) 1 = .ok (.iload_n 1, 1) := by decide +kernel
theorem zcV154_85 : (z_find z_cV (z_oc 154) 85).map (·.1) = some (1, 1, [(0, 35)]) := by decide +kernel
theorem zd154_2 : decode (z_b 154) 2 = .ok (.invokevirtual 85, 3) := by decide +kernel
theorem zd154_5 : decode (z_b 154) 5 = .ok (.astore 4, 2) := by decide +kernel
theorem zd154_7 : decode (z_b 154) 7 = .ok (.aload 4, 2) := by decide +kernel
theorem zd154_9 : decode (z_b 154) 9 = .ok (.ifnull 22, 3) := by decide +kernel
theorem zd154_31 : decode (z_b 154) 31 = .ok (.iconst (-1), 1) := by decide +kernel
theorem zr154 : z_rt 154 = some (.int) := by decide +kernel
theorem zd154_32 : decode (z_b 154) 32 = .ok (.ireturn, 1) := by decide +kernel
theorem zd0_1383 : decode (z_b 0) 1383 = .ok (.aload_n 2, 1) := by decide +kernel
theorem zd0_1384 : decode (z_b 0) 1384 = .ok (.aload_n 0, 1) := by decide +kernel
theorem zd0_1385 : decode (z_b 0) 1385 = .ok (.iload_n 3, 1) := by decide +kernel
theorem zd0_1386 : decode (z_b 0) 1386 = .ok (.iconst 1, 1) := by decide +kernel
theorem zd0_1387 : decode (z_b 0) 1387 = .ok (.iadd, 1) := by decide +kernel
theorem zd0_1388 : decode (z_b 0) 1388 = .ok (.iaload, 1) := by decide +kernel
theorem zd0_1389 : decode (z_b 0) 1389 = .ok (.aload_n 0, 1) := by decide +kernel
theorem zd0_1390 : decode (z_b 0) 1390 = .ok (.iload_n 3, 1) := by decide +kernel
theorem zd0_1391 : decode (z_b 0) 1391 = .ok (.iconst 2, 1) := by decide +kernel
theorem zd0_1392 : decode (z_b 0) 1392 = .ok (.iadd, 1) := by decide +kernel
theorem zd0_1393 : decode (z_b 0) 1393 = .ok (.iaload, 1) := by decide +kernel
theorem zd0_1394 : decode (z_b 0) 1394 = .ok (.aload_n 0, 1) := by decide +kernel
theorem zd0_1395 : decode (z_b 0) 1395 = .ok (.iload_n 3, 1) := by decide +kernel
theorem zd0_1396 : decode (z_b 0) 1396 = .ok (.iconst 3, 1) := by decide +kernel
theorem zd0_1397 : decode (z_b 0) 1397 = .ok (.iadd, 1) := by decide +kernel
theorem zd0_1398 : decode (z_b 0) 1398 = .ok (.iaload, 1) := by decide +kernel
theorem zcV0_134 : (z_find z_cV (z_oc 0) 134).map (·.1) = some (1, 3, [(12, 274)]) := by decide +kernel
theorem zd0_1399 : decode (z_b 0) 1399 = .ok (.invokevirtual 134, 3) := by decide +kernel
theorem zm274 : z_ml 274 = 4 := by decide +kernel
theorem zd274_0 : decode (z_b 274) 0 = .ok (.aload_n 0, 1) := by decide +kernel
theorem zd274_1 : decode (z_b 274) 1 = .ok (.iload_n 1, 1) := by decide +kernel
theorem zcV274_209 : (z_find z_cV (z_oc 274) 209).map (·.1) = some (1, 1, [(12, 209)]) := by decide +kernel
theorem zd274_2 : decode (z_b 274) 2 = .ok (.invokevirtual 209, 3) := by decide +kernel
theorem zd274_5 : decode (z_b 274) 5 = .ok (.ifCond .eq 34, 3) := by decide +kernel
theorem zd274_39 : decode (z_b 274) 39 = .ok (.iconst (-1), 1) := by decide +kernel
theorem zr274 : z_rt 274 = some (.int) := by decide +kernel
theorem zd274_40 : decode (z_b 274) 40 = .ok (.ireturn, 1) := by decide +kernel
theorem zd0_1402 : decode (z_b 0) 1402 = .ok (.if_icmp .eq 373, 3) := by decide +kernel
theorem zd0_1407 : decode (z_b 0) 1407 = .ok (.aload_n 1, 1) := by decide +kernel
theorem zd0_1408 : decode (z_b 0) 1408 = .ok (.aload_n 0, 1) := by decide +kernel
theorem zd0_1409 : decode (z_b 0) 1409 = .ok (.iload_n 3, 1) := by decide +kernel
theorem zd0_1410 : decode (z_b 0) 1410 = .ok (.iconst 1, 1) := by decide +kernel
theorem zd0_1411 : decode (z_b 0) 1411 = .ok (.iadd, 1) := by decide +kernel
theorem zd0_1412 : decode (z_b 0) 1412 = .ok (.iaload, 1) := by decide +kernel
theorem zd0_1413 : decode (z_b 0) 1413 = .ok (.aload_n 0, 1) := by decide +kernel
theorem zd0_1414 : decode (z_b 0) 1414 = .ok (.iload_n 3, 1) := by decide +kernel
theorem zd0_1415 : decode (z_b 0) 1415 = .ok (.iconst 2, 1) := by decide +kernel
theorem zd0_1416 : decode (z_b 0) 1416 = .ok (.iadd, 1) := by decide +kernel
theorem zd0_1417 : decode (z_b 0) 1417 = .ok (.iaload, 1) := by decide +kernel
theorem zd0_1418 : decode (z_b 0) 1418 = .ok (.aload_n 0, 1) := by decide +kernel
theorem zd0_1419 : decode (z_b 0) 1419 = .ok (.iload_n 3, 1) := by decide +kernel
theorem zd0_1420 : decode (z_b 0) 1420 = .ok (.iconst 3, 1) := by decide +kernel
theorem zd0_1421 : decode (z_b 0) 1421 = .ok (.iadd, 1) := by decide +kernel
theorem zd0_1422 : decode (z_b 0) 1422 = .ok (.iaload, 1) := by decide +kernel
theorem zcV0_135 : (z_find z_cV (z_oc 0) 135).map (·.1) = some (1, 3, [(0, 159)]) := by decide +kernel
theorem zd0_1423 : decode (z_b 0) 1423 = .ok (.invokevirtual 135, 3) := by decide +kernel
theorem zm159 : z_ml 159 = 5 := by decide +kernel
theorem zd159_0 : decode (z_b 159) 0 = .ok (.aload_n 0, 1) := by decide +kernel
theorem zf159_31 : z_fF (z_oc 159) 31 = some ((6, [0]), "DoorBench") := by decide +kernel
theorem zd159_1 : decode (z_b 159) 1 = .ok (.getfield 31, 3) := by decide +kernel
theorem zd159_4 : decode (z_b 159) 4 = .ok (.iconst 0, 1) := by decide +kernel
theorem zd159_5 : decode (z_b 159) 5 = .ok (.iconst 0, 1) := by decide +kernel
theorem zd159_6 : decode (z_b 159) 6 = .ok (.iastore, 1) := by decide +kernel
theorem zd159_7 : decode (z_b 159) 7 = .ok (.aload_n 0, 1) := by decide +kernel
theorem zd159_8 : decode (z_b 159) 8 = .ok (.iload_n 1, 1) := by decide +kernel
theorem zcV159_221 : (z_find z_cV (z_oc 159) 221).map (·.1) = some (1, 1, [(0, 84)]) := by decide +kernel
theorem zd159_9 : decode (z_b 159) 9 = .ok (.invokevirtual 221, 3) := by decide +kernel
theorem zd159_12 : decode (z_b 159) 12 = .ok (.astore 4, 2) := by decide +kernel
theorem zd159_14 : decode (z_b 159) 14 = .ok (.aload 4, 2) := by decide +kernel
theorem zd159_16 : decode (z_b 159) 16 = .ok (.ifnonnull 5, 3) := by decide +kernel
theorem zd159_19 : decode (z_b 159) 19 = .ok (.iconst 0, 1) := by decide +kernel
theorem zr159 : z_rt 159 = some (.int) := by decide +kernel
theorem zd159_20 : decode (z_b 159) 20 = .ok (.ireturn, 1) := by decide +kernel
theorem zd0_1426 : decode (z_b 0) 1426 = .ok (.aload_n 2, 1) := by decide +kernel
theorem zd0_1427 : decode (z_b 0) 1427 = .ok (.aload_n 0, 1) := by decide +kernel
theorem zd0_1428 : decode (z_b 0) 1428 = .ok (.iload_n 3, 1) := by decide +kernel
theorem zd0_1429 : decode (z_b 0) 1429 = .ok (.iconst 1, 1) := by decide +kernel
theorem zd0_1430 : decode (z_b 0) 1430 = .ok (.iadd, 1) := by decide +kernel
theorem zd0_1431 : decode (z_b 0) 1431 = .ok (.iaload, 1) := by decide +kernel
theorem zd0_1432 : decode (z_b 0) 1432 = .ok (.aload_n 0, 1) := by decide +kernel
theorem zd0_1433 : decode (z_b 0) 1433 = .ok (.iload_n 3, 1) := by decide +kernel
theorem zd0_1434 : decode (z_b 0) 1434 = .ok (.iconst 2, 1) := by decide +kernel
theorem zd0_1435 : decode (z_b 0) 1435 = .ok (.iadd, 1) := by decide +kernel
theorem zd0_1436 : decode (z_b 0) 1436 = .ok (.iaload, 1) := by decide +kernel
theorem zd0_1437 : decode (z_b 0) 1437 = .ok (.aload_n 0, 1) := by decide +kernel
theorem zd0_1438 : decode (z_b 0) 1438 = .ok (.iload_n 3, 1) := by decide +kernel
theorem zd0_1439 : decode (z_b 0) 1439 = .ok (.iconst 3, 1) := by decide +kernel
theorem zd0_1440 : decode (z_b 0) 1440 = .ok (.iadd, 1) := by decide +kernel
theorem zd0_1441 : decode (z_b 0) 1441 = .ok (.iaload, 1) := by decide +kernel
theorem zcV0_138 : (z_find z_cV (z_oc 0) 138).map (·.1) = some (1, 3, [(12, 276)]) := by decide +kernel
theorem zd0_1442 : decode (z_b 0) 1442 = .ok (.invokevirtual 138, 3) := by decide +kernel
theorem zm276 : z_ml 276 = 4 := by decide +kernel
theorem zd276_0 : decode (z_b 276) 0 = .ok (.aload_n 0, 1) := by decide +kernel
theorem zd276_1 : decode (z_b 276) 1 = .ok (.iconst 0, 1) := by decide +kernel
theorem zf276_381 : z_fF (z_oc 276) 381 = some ((47, [12]), "DoorBenchModel") := by decide +kernel
theorem zd276_2 : decode (z_b 276) 2 = .ok (.putfield 381, 3) := by decide +kernel
theorem zd276_5 : decode (z_b 276) 5 = .ok (.aload_n 0, 1) := by decide +kernel
theorem zd276_6 : decode (z_b 276) 6 = .ok (.iload_n 1, 1) := by decide +kernel
theorem zcV276_272 : (z_find z_cV (z_oc 276) 272).map (·.1) = some (1, 1, [(12, 237)]) := by decide +kernel
theorem zd276_7 : decode (z_b 276) 7 = .ok (.invokevirtual 272, 3) := by decide +kernel
theorem zd276_10 : decode (z_b 276) 10 = .ok (.ifCond .eq 15, 3) := by decide +kernel
theorem zd276_25 : decode (z_b 276) 25 = .ok (.iconst 0, 1) := by decide +kernel
theorem zr276 : z_rt 276 = some (.int) := by decide +kernel
theorem zd276_26 : decode (z_b 276) 26 = .ok (.ireturn, 1) := by decide +kernel
theorem zd0_1445 : decode (z_b 0) 1445 = .ok (.if_icmp .eq 330, 3) := by decide +kernel
theorem zd0_1450 : decode (z_b 0) 1450 = .ok (.aload_n 1, 1) := by decide +kernel
theorem zd0_1451 : decode (z_b 0) 1451 = .ok (.aload_n 0, 1) := by decide +kernel
theorem zd0_1452 : decode (z_b 0) 1452 = .ok (.iload_n 3, 1) := by decide +kernel
theorem zd0_1453 : decode (z_b 0) 1453 = .ok (.iconst 1, 1) := by decide +kernel
theorem zd0_1454 : decode (z_b 0) 1454 = .ok (.iadd, 1) := by decide +kernel
theorem zd0_1455 : decode (z_b 0) 1455 = .ok (.iaload, 1) := by decide +kernel
theorem zcV0_139 : (z_find z_cV (z_oc 0) 139).map (·.1) = some (1, 1, [(0, 174)]) := by decide +kernel
theorem zd0_1456 : decode (z_b 0) 1456 = .ok (.invokevirtual 139, 3) := by decide +kernel
theorem zm174 : z_ml 174 = 2 := by decide +kernel
theorem zd174_0 : decode (z_b 174) 0 = .ok (.iload_n 1, 1) := by decide +kernel
theorem zd174_1 : decode (z_b 174) 1 = .ok (.ifCond .lt 19, 3) := by decide +kernel
theorem zd174_20 : decode (z_b 174) 20 = .ok (.iconst (-1), 1) := by decide +kernel
theorem zr174 : z_rt 174 = some (.int) := by decide +kernel
theorem zd174_21 : decode (z_b 174) 21 = .ok (.ireturn, 1) := by decide +kernel
theorem zd0_1459 : decode (z_b 0) 1459 = .ok (.aload_n 2, 1) := by decide +kernel
theorem zd0_1460 : decode (z_b 0) 1460 = .ok (.aload_n 0, 1) := by decide +kernel
theorem zd0_1461 : decode (z_b 0) 1461 = .ok (.iload_n 3, 1) := by decide +kernel
theorem zd0_1462 : decode (z_b 0) 1462 = .ok (.iconst 1, 1) := by decide +kernel
theorem zd0_1463 : decode (z_b 0) 1463 = .ok (.iadd, 1) := by decide +kernel
theorem zd0_1464 : decode (z_b 0) 1464 = .ok (.iaload, 1) := by decide +kernel
theorem zcV0_142 : (z_find z_cV (z_oc 0) 142).map (·.1) = some (1, 1, [(12, 283)]) := by decide +kernel
theorem zd0_1465 : decode (z_b 0) 1465 = .ok (.invokevirtual 142, 3) := by decide +kernel
theorem zm283 : z_ml 283 = 2 := by decide +kernel
theorem zd283_0 : decode (z_b 283) 0 = .ok (.iload_n 1, 1) := by decide +kernel
theorem zd283_1 : decode (z_b 283) 1 = .ok (.ifCond .lt 26, 3) := by decide +kernel
theorem zd283_27 : decode (z_b 283) 27 = .ok (.iconst (-1), 1) := by decide +kernel
theorem zr283 : z_rt 283 = some (.int) := by decide +kernel
theorem zd283_28 : decode (z_b 283) 28 = .ok (.ireturn, 1) := by decide +kernel
theorem zd0_1468 : decode (z_b 0) 1468 = .ok (.if_icmp .eq 307, 3) := by decide +kernel
theorem zd174_4 : decode (z_b 174) 4 = .ok (.iload_n 1, 1) := by decide +kernel
theorem zd174_5 : decode (z_b 174) 5 = .ok (.aload_n 0, 1) := by decide +kernel
theorem zf174_31 : z_fF (z_oc 174) 31 = some ((6, [0]), "DoorBench") := by decide +kernel
theorem zd174_6 : decode (z_b 174) 6 = .ok (.getfield 31, 3) := by decide +kernel
theorem zd174_9 : decode (z_b 174) 9 = .ok (.iconst 0, 1) := by decide +kernel
theorem zd174_10 : decode (z_b 174) 10 = .ok (.iaload, 1) := by decide +kernel
theorem zd174_11 : decode (z_b 174) 11 = .ok (.if_icmp .ge 9, 3) := by decide +kernel
theorem zd283_4 : decode (z_b 283) 4 = .ok (.iload_n 1, 1) := by decide +kernel
theorem zd283_5 : decode (z_b 283) 5 = .ok (.aload_n 0, 1) := by decide +kernel
theorem zf283_381 : z_fF (z_oc 283) 381 = some ((47, [12]), "DoorBenchModel") := by decide +kernel
theorem zd283_6 : decode (z_b 283) 6 = .ok (.getfield 381, 3) := by decide +kernel
theorem zd283_9 : decode (z_b 283) 9 = .ok (.if_icmp .ge 18, 3) := by decide +kernel
theorem zd0_1473 : decode (z_b 0) 1473 = .ok (.aload_n 1, 1) := by decide +kernel
theorem zd0_1474 : decode (z_b 0) 1474 = .ok (.aload_n 0, 1) := by decide +kernel
theorem zd0_1475 : decode (z_b 0) 1475 = .ok (.iload_n 3, 1) := by decide +kernel
theorem zd0_1476 : decode (z_b 0) 1476 = .ok (.iconst 1, 1) := by decide +kernel
theorem zd0_1477 : decode (z_b 0) 1477 = .ok (.iadd, 1) := by decide +kernel
theorem zd0_1478 : decode (z_b 0) 1478 = .ok (.iaload, 1) := by decide +kernel
theorem zd0_1479 : decode (z_b 0) 1479 = .ok (.aload_n 0, 1) := by decide +kernel
theorem zd0_1480 : decode (z_b 0) 1480 = .ok (.iload_n 3, 1) := by decide +kernel
theorem zd0_1481 : decode (z_b 0) 1481 = .ok (.iconst 2, 1) := by decide +kernel
theorem zd0_1482 : decode (z_b 0) 1482 = .ok (.iadd, 1) := by decide +kernel
theorem zd0_1483 : decode (z_b 0) 1483 = .ok (.iaload, 1) := by decide +kernel
theorem zcV0_143 : (z_find z_cV (z_oc 0) 143).map (·.1) = some (1, 2, [(0, 175)]) := by decide +kernel
theorem zd0_1484 : decode (z_b 0) 1484 = .ok (.invokevirtual 143, 3) := by decide +kernel
theorem zm175 : z_ml 175 = 3 := by decide +kernel
theorem zd175_0 : decode (z_b 175) 0 = .ok (.iload_n 1, 1) := by decide +kernel
theorem zcS175_148 : (z_find z_cS (z_oc 175) 148).map (·.1) = some (0, 1, [(0, 58)]) := by decide +kernel
theorem zd175_1 : decode (z_b 175) 1 = .ok (.invokestatic 148, 3) := by decide +kernel
theorem zm58 : z_ml 58 = 1 := by decide +kernel
theorem zd58_0 : decode (z_b 58) 0 = .ok (.iload_n 0, 1) := by decide +kernel
theorem zd58_1 : decode (z_b 58) 1 = .ok (.ifCond .lt 13, 3) := by decide +kernel
theorem zd58_14 : decode (z_b 58) 14 = .ok (.iconst 0, 1) := by decide +kernel
theorem zr58 : z_rt 58 = some (.boolean) := by decide +kernel
theorem zd58_15 : decode (z_b 58) 15 = .ok (.ireturn, 1) := by decide +kernel
theorem zd175_4 : decode (z_b 175) 4 = .ok (.ifCond .ne 5, 3) := by decide +kernel
theorem zd175_7 : decode (z_b 175) 7 = .ok (.iconst (-1), 1) := by decide +kernel
theorem zr175 : z_rt 175 = some (.int) := by decide +kernel
theorem zd175_8 : decode (z_b 175) 8 = .ok (.ireturn, 1) := by decide +kernel
theorem zd0_1487 : decode (z_b 0) 1487 = .ok (.aload_n 2, 1) := by decide +kernel
theorem zd0_1488 : decode (z_b 0) 1488 = .ok (.aload_n 0, 1) := by decide +kernel
theorem zd0_1489 : decode (z_b 0) 1489 = .ok (.iload_n 3, 1) := by decide +kernel
theorem zd0_1490 : decode (z_b 0) 1490 = .ok (.iconst 1, 1) := by decide +kernel
theorem zd0_1491 : decode (z_b 0) 1491 = .ok (.iadd, 1) := by decide +kernel
theorem zd0_1492 : decode (z_b 0) 1492 = .ok (.iaload, 1) := by decide +kernel
theorem zd0_1493 : decode (z_b 0) 1493 = .ok (.aload_n 0, 1) := by decide +kernel
theorem zd0_1494 : decode (z_b 0) 1494 = .ok (.iload_n 3, 1) := by decide +kernel
theorem zd0_1495 : decode (z_b 0) 1495 = .ok (.iconst 2, 1) := by decide +kernel
theorem zd0_1496 : decode (z_b 0) 1496 = .ok (.iadd, 1) := by decide +kernel
theorem zd0_1497 : decode (z_b 0) 1497 = .ok (.iaload, 1) := by decide +kernel
theorem zcV0_146 : (z_find z_cV (z_oc 0) 146).map (·.1) = some (1, 2, [(12, 284)]) := by decide +kernel
theorem zd0_1498 : decode (z_b 0) 1498 = .ok (.invokevirtual 146, 3) := by decide +kernel
theorem zm284 : z_ml 284 = 3 := by decide +kernel
theorem zd284_0 : decode (z_b 284) 0 = .ok (.iload_n 1, 1) := by decide +kernel
theorem zcS284_237 : (z_find z_cS (z_oc 284) 237).map (·.1) = some (0, 1, [(0, 225)]) := by decide +kernel
theorem zd284_1 : decode (z_b 284) 1 = .ok (.invokestatic 237, 3) := by decide +kernel
theorem zm225 : z_ml 225 = 1 := by decide +kernel
theorem zd225_0 : decode (z_b 225) 0 = .ok (.iload_n 0, 1) := by decide +kernel
theorem zd225_1 : decode (z_b 225) 1 = .ok (.i2l, 1) := by decide +kernel
theorem zd225_2 : decode (z_b 225) 2 = .ok (.lconst 0, 1) := by decide +kernel
theorem zl225_318 : (z_find z_l2 (z_oc 225) 318).map (·.1) = some 5 := by decide +kernel
theorem zd225_3 : decode (z_b 225) 3 = .ok (.ldc2_w 318, 3) := by decide +kernel
theorem zcS225_116 : (z_find z_cS (z_oc 225) 116).map (·.1) = some (0, 3, [(0, 189)]) := by decide +kernel
theorem zd225_6 : decode (z_b 225) 6 = .ok (.invokestatic 116, 3) := by decide +kernel
theorem zr225 : z_rt 225 = some (.boolean) := by decide +kernel
theorem zd225_9 : decode (z_b 225) 9 = .ok (.ireturn, 1) := by decide +kernel
theorem zd284_4 : decode (z_b 284) 4 = .ok (.ifCond .eq 16, 3) := by decide +kernel
theorem zd284_20 : decode (z_b 284) 20 = .ok (.iconst (-1), 1) := by decide +kernel
theorem zr284 : z_rt 284 = some (.int) := by decide +kernel
theorem zd284_21 : decode (z_b 284) 21 = .ok (.ireturn, 1) := by decide +kernel
theorem zd0_1501 : decode (z_b 0) 1501 = .ok (.if_icmp .eq 274, 3) := by decide +kernel
theorem zd58_4 : decode (z_b 58) 4 = .ok (.iload_n 0, 1) := by decide +kernel
theorem zd58_5 : decode (z_b 58) 5 = .ok (.bipush 6, 2) := by decide +kernel
theorem zd58_7 : decode (z_b 58) 7 = .ok (.if_icmp .ge 7, 3) := by decide +kernel
theorem zd58_10 : decode (z_b 58) 10 = .ok (.iconst 1, 1) := by decide +kernel
theorem zd58_11 : decode (z_b 58) 11 = .ok (.goto 4, 3) := by decide +kernel
theorem zd175_9 : decode (z_b 175) 9 = .ok (.iload_n 2, 1) := by decide +kernel
theorem zd175_10 : decode (z_b 175) 10 = .ok (.iconst (-1), 1) := by decide +kernel
theorem zd175_11 : decode (z_b 175) 11 = .ok (.if_icmp .eq 13, 3) := by decide +kernel
theorem zd175_24 : decode (z_b 175) 24 = .ok (.aload_n 0, 1) := by decide +kernel
theorem zf175_45 : z_fF (z_oc 175) 45 = some ((10, [0]), "DoorBench") := by decide +kernel
theorem zd175_25 : decode (z_b 175) 25 = .ok (.getfield 45, 3) := by decide +kernel
theorem zd175_28 : decode (z_b 175) 28 = .ok (.iload_n 1, 1) := by decide +kernel
theorem zd175_29 : decode (z_b 175) 29 = .ok (.aload_n 0, 1) := by decide +kernel
theorem zd175_30 : decode (z_b 175) 30 = .ok (.iload_n 2, 1) := by decide +kernel
theorem zcV175_221 : (z_find z_cV (z_oc 175) 221).map (·.1) = some (1, 1, [(0, 84)]) := by decide +kernel
theorem zd175_31 : decode (z_b 175) 31 = .ok (.invokevirtual 221, 3) := by decide +kernel
theorem zd175_34 : decode (z_b 175) 34 = .ok (.aastore, 1) := by decide +kernel
theorem zd175_35 : decode (z_b 175) 35 = .ok (.aload_n 0, 1) := by decide +kernel
theorem zf175_35 : z_fF (z_oc 175) 35 = some ((7, [0]), "DoorBench") := by decide +kernel
theorem zd175_36 : decode (z_b 175) 36 = .ok (.getfield 35, 3) := by decide +kernel
theorem zd175_39 : decode (z_b 175) 39 = .ok (.iload_n 1, 1) := by decide +kernel
theorem zd175_40 : decode (z_b 175) 40 = .ok (.iload_n 2, 1) := by decide +kernel
theorem zd175_41 : decode (z_b 175) 41 = .ok (.iconst (-1), 1) := by decide +kernel
theorem zd175_42 : decode (z_b 175) 42 = .ok (.if_icmp .ne 7, 3) := by decide +kernel
theorem zd175_45 : decode (z_b 175) 45 = .ok (.iconst (-1), 1) := by decide +kernel
theorem zd175_46 : decode (z_b 175) 46 = .ok (.goto 4, 3) := by decide +kernel
theorem zd175_50 : decode (z_b 175) 50 = .ok (.iastore, 1) := by decide +kernel
theorem zd175_51 : decode (z_b 175) 51 = .ok (.iconst 1, 1) := by decide +kernel
theorem zd175_52 : decode (z_b 175) 52 = .ok (.ireturn, 1) := by decide +kernel
theorem zd284_7 : decode (z_b 284) 7 = .ok (.iload_n 2, 1) := by decide +kernel
theorem zd284_8 : decode (z_b 284) 8 = .ok (.iconst (-1), 1) := by decide +kernel
theorem zd284_9 : decode (z_b 284) 9 = .ok (.if_icmp .eq 13, 3) := by decide +kernel
theorem zd284_22 : decode (z_b 284) 22 = .ok (.aload_n 0, 1) := by decide +kernel
theorem zf284_97 : z_fF (z_oc 284) 97 = some ((49, [12]), "DoorBenchModel") := by decide +kernel
theorem zd284_23 : decode (z_b 284) 23 = .ok (.getfield 97, 3) := by decide +kernel
theorem zd284_26 : decode (z_b 284) 26 = .ok (.iload_n 1, 1) := by decide +kernel
theorem zd284_27 : decode (z_b 284) 27 = .ok (.iload_n 2, 1) := by decide +kernel
theorem zd284_28 : decode (z_b 284) 28 = .ok (.iastore, 1) := by decide +kernel
theorem zd284_29 : decode (z_b 284) 29 = .ok (.aload_n 0, 1) := by decide +kernel
theorem zf284_100 : z_fF (z_oc 284) 100 = some ((50, [12]), "DoorBenchModel") := by decide +kernel
theorem zd284_30 : decode (z_b 284) 30 = .ok (.getfield 100, 3) := by decide +kernel
theorem zd284_33 : decode (z_b 284) 33 = .ok (.iload_n 1, 1) := by decide +kernel
theorem zd284_34 : decode (z_b 284) 34 = .ok (.iconst 0, 1) := by decide +kernel
theorem zd284_35 : decode (z_b 284) 35 = .ok (.iastore, 1) := by decide +kernel
theorem zd284_36 : decode (z_b 284) 36 = .ok (.iconst 1, 1) := by decide +kernel
theorem zd284_37 : decode (z_b 284) 37 = .ok (.ireturn, 1) := by decide +kernel
theorem zd175_14 : decode (z_b 175) 14 = .ok (.aload_n 0, 1) := by decide +kernel
theorem zd175_15 : decode (z_b 175) 15 = .ok (.iload_n 2, 1) := by decide +kernel
theorem zd175_16 : decode (z_b 175) 16 = .ok (.invokevirtual 221, 3) := by decide +kernel
theorem zd175_19 : decode (z_b 175) 19 = .ok (.ifnonnull 5, 3) := by decide +kernel
theorem zd175_22 : decode (z_b 175) 22 = .ok (.iconst (-1), 1) := by decide +kernel
theorem zd175_23 : decode (z_b 175) 23 = .ok (.ireturn, 1) := by decide +kernel
theorem zd284_12 : decode (z_b 284) 12 = .ok (.aload_n 0, 1) := by decide +kernel
theorem zd284_13 : decode (z_b 284) 13 = .ok (.iload_n 2, 1) := by decide +kernel
theorem zcV284_272 : (z_find z_cV (z_oc 284) 272).map (·.1) = some (1, 1, [(12, 237)]) := by decide +kernel
theorem zd284_14 : decode (z_b 284) 14 = .ok (.invokevirtual 272, 3) := by decide +kernel
theorem zd284_17 : decode (z_b 284) 17 = .ok (.ifCond .ne 5, 3) := by decide +kernel
theorem zd0_1506 : decode (z_b 0) 1506 = .ok (.aload_n 1, 1) := by decide +kernel
theorem zd0_1507 : decode (z_b 0) 1507 = .ok (.aload_n 0, 1) := by decide +kernel
theorem zd0_1508 : decode (z_b 0) 1508 = .ok (.iload_n 3, 1) := by decide +kernel
theorem zd0_1509 : decode (z_b 0) 1509 = .ok (.iconst 1, 1) := by decide +kernel
theorem zd0_1510 : decode (z_b 0) 1510 = .ok (.iadd, 1) := by decide +kernel
theorem zd0_1511 : decode (z_b 0) 1511 = .ok (.iaload, 1) := by decide +kernel
theorem zd0_1512 : decode (z_b 0) 1512 = .ok (.aload_n 0, 1) := by decide +kernel
theorem zd0_1513 : decode (z_b 0) 1513 = .ok (.iload_n 3, 1) := by decide +kernel
theorem zd0_1514 : decode (z_b 0) 1514 = .ok (.iconst 2, 1) := by decide +kernel
theorem zd0_1515 : decode (z_b 0) 1515 = .ok (.iadd, 1) := by decide +kernel
theorem zd0_1516 : decode (z_b 0) 1516 = .ok (.iaload, 1) := by decide +kernel
theorem zd0_1517 : decode (z_b 0) 1517 = .ok (.aload_n 0, 1) := by decide +kernel
theorem zd0_1518 : decode (z_b 0) 1518 = .ok (.iload_n 3, 1) := by decide +kernel
theorem zd0_1519 : decode (z_b 0) 1519 = .ok (.iconst 3, 1) := by decide +kernel
theorem zd0_1520 : decode (z_b 0) 1520 = .ok (.iadd, 1) := by decide +kernel
theorem zd0_1521 : decode (z_b 0) 1521 = .ok (.iaload, 1) := by decide +kernel
theorem zcV0_147 : (z_find z_cV (z_oc 0) 147).map (·.1) = some (1, 3, [(0, 176)]) := by decide +kernel
theorem zd0_1522 : decode (z_b 0) 1522 = .ok (.invokevirtual 147, 3) := by decide +kernel
theorem zm176 : z_ml 176 = 4 := by decide +kernel
theorem zd176_0 : decode (z_b 176) 0 = .ok (.iload_n 1, 1) := by decide +kernel
theorem zcS176_148 : (z_find z_cS (z_oc 176) 148).map (·.1) = some (0, 1, [(0, 58)]) := by decide +kernel
theorem zd176_1 : decode (z_b 176) 1 = .ok (.invokestatic 148, 3) := by decide +kernel
theorem zd176_4 : decode (z_b 176) 4 = .ok (.ifCond .eq 18, 3) := by decide +kernel
theorem zd176_22 : decode (z_b 176) 22 = .ok (.iconst (-1), 1) := by decide +kernel
theorem zr176 : z_rt 176 = some (.int) := by decide +kernel
theorem zd176_23 : decode (z_b 176) 23 = .ok (.ireturn, 1) := by decide +kernel
theorem zd0_1525 : decode (z_b 0) 1525 = .ok (.aload_n 2, 1) := by decide +kernel
theorem zd0_1526 : decode (z_b 0) 1526 = .ok (.aload_n 0, 1) := by decide +kernel
theorem zd0_1527 : decode (z_b 0) 1527 = .ok (.iload_n 3, 1) := by decide +kernel
theorem zd0_1528 : decode (z_b 0) 1528 = .ok (.iconst 1, 1) := by decide +kernel
theorem zd0_1529 : decode (z_b 0) 1529 = .ok (.iadd, 1) := by decide +kernel
theorem zd0_1530 : decode (z_b 0) 1530 = .ok (.iaload, 1) := by decide +kernel
theorem zd0_1531 : decode (z_b 0) 1531 = .ok (.aload_n 0, 1) := by decide +kernel
theorem zd0_1532 : decode (z_b 0) 1532 = .ok (.iload_n 3, 1) := by decide +kernel
theorem zd0_1533 : decode (z_b 0) 1533 = .ok (.iconst 2, 1) := by decide +kernel
theorem zd0_1534 : decode (z_b 0) 1534 = .ok (.iadd, 1) := by decide +kernel
theorem zd0_1535 : decode (z_b 0) 1535 = .ok (.iaload, 1) := by decide +kernel
theorem zd0_1536 : decode (z_b 0) 1536 = .ok (.aload_n 0, 1) := by decide +kernel
theorem zd0_1537 : decode (z_b 0) 1537 = .ok (.iload_n 3, 1) := by decide +kernel
theorem zd0_1538 : decode (z_b 0) 1538 = .ok (.iconst 3, 1) := by decide +kernel
theorem zd0_1539 : decode (z_b 0) 1539 = .ok (.iadd, 1) := by decide +kernel
theorem zd0_1540 : decode (z_b 0) 1540 = .ok (.iaload, 1) := by decide +kernel
theorem zcV0_150 : (z_find z_cV (z_oc 0) 150).map (·.1) = some (1, 3, [(12, 285)]) := by decide +kernel
theorem zd0_1541 : decode (z_b 0) 1541 = .ok (.invokevirtual 150, 3) := by decide +kernel
theorem zm285 : z_ml 285 = 5 := by decide +kernel
theorem zd285_0 : decode (z_b 285) 0 = .ok (.iload_n 1, 1) := by decide +kernel
theorem zcS285_237 : (z_find z_cS (z_oc 285) 237).map (·.1) = some (0, 1, [(0, 225)]) := by decide +kernel
theorem zd285_1 : decode (z_b 285) 1 = .ok (.invokestatic 237, 3) := by decide +kernel
theorem zd285_4 : decode (z_b 285) 4 = .ok (.ifCond .eq 21, 3) := by decide +kernel
theorem zd285_25 : decode (z_b 285) 25 = .ok (.iconst (-1), 1) := by decide +kernel
theorem zr285 : z_rt 285 = some (.int) := by decide +kernel
theorem zd285_26 : decode (z_b 285) 26 = .ok (.ireturn, 1) := by decide +kernel
theorem zd0_1544 : decode (z_b 0) 1544 = .ok (.if_icmp .eq 231, 3) := by decide +kernel
theorem zd176_7 : decode (z_b 176) 7 = .ok (.iload_n 2, 1) := by decide +kernel
theorem zd176_8 : decode (z_b 176) 8 = .ok (.ifCond .lt 14, 3) := by decide +kernel
theorem zd285_7 : decode (z_b 285) 7 = .ok (.iload_n 2, 1) := by decide +kernel
theorem zd285_8 : decode (z_b 285) 8 = .ok (.i2l, 1) := by decide +kernel
theorem zd285_9 : decode (z_b 285) 9 = .ok (.lconst 0, 1) := by decide +kernel
theorem zl285_114 : (z_find z_l2 (z_oc 285) 114).map (·.1) = some 4 := by decide +kernel
theorem zd285_10 : decode (z_b 285) 10 = .ok (.ldc2_w 114, 3) := by decide +kernel
theorem zcS285_116 : (z_find z_cS (z_oc 285) 116).map (·.1) = some (0, 3, [(0, 189)]) := by decide +kernel
theorem zd285_13 : decode (z_b 285) 13 = .ok (.invokestatic 116, 3) := by decide +kernel
theorem zd285_16 : decode (z_b 285) 16 = .ok (.ifCond .eq 9, 3) := by decide +kernel
theorem zd176_11 : decode (z_b 176) 11 = .ok (.iload_n 2, 1) := by decide +kernel
theorem zd176_12 : decode (z_b 176) 12 = .ok (.iconst 4, 1) := by decide +kernel
theorem zd176_13 : decode (z_b 176) 13 = .ok (.if_icmp .gt 9, 3) := by decide +kernel
theorem zd176_16 : decode (z_b 176) 16 = .ok (.iload_n 3, 1) := by decide +kernel
theorem zd176_17 : decode (z_b 176) 17 = .ok (.bipush 60, 2) := by decide +kernel
theorem zd176_19 : decode (z_b 176) 19 = .ok (.if_icmp .le 5, 3) := by decide +kernel
theorem zd285_19 : decode (z_b 285) 19 = .ok (.iload_n 3, 1) := by decide +kernel
theorem zd285_20 : decode (z_b 285) 20 = .ok (.bipush 60, 2) := by decide +kernel
theorem zd285_22 : decode (z_b 285) 22 = .ok (.if_icmp .le 5, 3) := by decide +kernel
theorem zd176_24 : decode (z_b 176) 24 = .ok (.iload_n 3, 1) := by decide +kernel
theorem zd176_25 : decode (z_b 176) 25 = .ok (.ifCond .ge 6, 3) := by decide +kernel
theorem zd176_28 : decode (z_b 176) 28 = .ok (.bipush (-14), 2) := by decide +kernel
theorem zd176_30 : decode (z_b 176) 30 = .ok (.ireturn, 1) := by decide +kernel
theorem zd285_27 : decode (z_b 285) 27 = .ok (.iload_n 3, 1) := by decide +kernel
theorem zd285_28 : decode (z_b 285) 28 = .ok (.ifCond .ge 6, 3) := by decide +kernel
theorem zd285_31 : decode (z_b 285) 31 = .ok (.bipush (-14), 2) := by decide +kernel
theorem zd285_33 : decode (z_b 285) 33 = .ok (.ireturn, 1) := by decide +kernel
theorem zd176_31 : decode (z_b 176) 31 = .ok (.aload_n 0, 1) := by decide +kernel
theorem zf176_45 : z_fF (z_oc 176) 45 = some ((10, [0]), "DoorBench") := by decide +kernel
theorem zd176_32 : decode (z_b 176) 32 = .ok (.getfield 45, 3) := by decide +kernel
theorem zd176_35 : decode (z_b 176) 35 = .ok (.iload_n 1, 1) := by decide +kernel
theorem zd176_36 : decode (z_b 176) 36 = .ok (.aconst_null, 1) := by decide +kernel
theorem zd176_37 : decode (z_b 176) 37 = .ok (.aastore, 1) := by decide +kernel
theorem zd176_38 : decode (z_b 176) 38 = .ok (.aload_n 0, 1) := by decide +kernel
theorem zf176_35 : z_fF (z_oc 176) 35 = some ((7, [0]), "DoorBench") := by decide +kernel
theorem zd176_39 : decode (z_b 176) 39 = .ok (.getfield 35, 3) := by decide +kernel
theorem zd176_42 : decode (z_b 176) 42 = .ok (.iload_n 1, 1) := by decide +kernel
theorem zd176_43 : decode (z_b 176) 43 = .ok (.iload_n 2, 1) := by decide +kernel
theorem zd176_44 : decode (z_b 176) 44 = .ok (.iastore, 1) := by decide +kernel
theorem zd176_45 : decode (z_b 176) 45 = .ok (.aload_n 0, 1) := by decide +kernel
theorem zf176_38 : z_fF (z_oc 176) 38 = some ((8, [0]), "DoorBench") := by decide +kernel
theorem zd176_46 : decode (z_b 176) 46 = .ok (.getfield 38, 3) := by decide +kernel
theorem zd176_49 : decode (z_b 176) 49 = .ok (.iload_n 1, 1) := by decide +kernel
theorem zd176_50 : decode (z_b 176) 50 = .ok (.iload_n 3, 1) := by decide +kernel
theorem zd176_51 : decode (z_b 176) 51 = .ok (.iastore, 1) := by decide +kernel
theorem zd176_52 : decode (z_b 176) 52 = .ok (.aload_n 0, 1) := by decide +kernel
theorem zf176_41 : z_fF (z_oc 176) 41 = some ((9, [0]), "DoorBench") := by decide +kernel
theorem zd176_53 : decode (z_b 176) 53 = .ok (.getfield 41, 3) := by decide +kernel
theorem zd176_56 : decode (z_b 176) 56 = .ok (.iload_n 1, 1) := by decide +kernel
theorem zd176_57 : decode (z_b 176) 57 = .ok (.bipush 60, 2) := by decide +kernel
theorem zd176_59 : decode (z_b 176) 59 = .ok (.imul, 1) := by decide +kernel
theorem zd176_60 : decode (z_b 176) 60 = .ok (.iload_n 1, 1) := by decide +kernel
theorem zd176_61 : decode (z_b 176) 61 = .ok (.bipush 60, 2) := by decide +kernel
theorem zd176_63 : decode (z_b 176) 63 = .ok (.imul, 1) := by decide +kernel
theorem zd176_64 : decode (z_b 176) 64 = .ok (.iload_n 3, 1) := by decide +kernel
theorem zd176_65 : decode (z_b 176) 65 = .ok (.iadd, 1) := by decide +kernel
theorem zd176_66 : decode (z_b 176) 66 = .ok (.lconst 0, 1) := by decide +kernel
theorem zcS176_307 : (z_find z_cS (z_oc 176) 307).map (·.1) = some (0, 4, [(0, 20)]) := by decide +kernel
theorem zd176_67 : decode (z_b 176) 67 = .ok (.invokestatic 307, 3) := by decide +kernel
theorem zm20 : z_ml 20 = 6 := by decide +kernel
theorem zd20_0 : decode (z_b 20) 0 = .ok (.aload_n 0, 1) := by decide +kernel
theorem zd20_1 : decode (z_b 20) 1 = .ok (.arraylength, 1) := by decide +kernel
theorem zd20_2 : decode (z_b 20) 2 = .ok (.iload_n 1, 1) := by decide +kernel
theorem zd20_3 : decode (z_b 20) 3 = .ok (.iload_n 2, 1) := by decide +kernel
theorem zcS20_13 : (z_find z_cS (z_oc 20) 13).map (·.1) = some (0, 3, [(0, 21)]) := by decide +kernel
theorem zd20_4 : decode (z_b 20) 4 = .ok (.invokestatic 13, 3) := by decide +kernel
theorem zm21 : z_ml 21 = 3 := by decide +kernel
theorem zd21_0 : decode (z_b 21) 0 = .ok (.iload_n 1, 1) := by decide +kernel
theorem zd21_1 : decode (z_b 21) 1 = .ok (.iload_n 2, 1) := by decide +kernel
theorem zd21_2 : decode (z_b 21) 2 = .ok (.if_icmp .le 44, 3) := by decide +kernel
theorem zd21_46 : decode (z_b 21) 46 = .ok (.iload_n 1, 1) := by decide +kernel
theorem zd21_47 : decode (z_b 21) 47 = .ok (.ifCond .ge 12, 3) := by decide +kernel
theorem zd21_59 : decode (z_b 21) 59 = .ok (.iload_n 2, 1) := by decide +kernel
theorem zd21_60 : decode (z_b 21) 60 = .ok (.iload_n 0, 1) := by decide +kernel
theorem zd21_61 : decode (z_b 21) 61 = .ok (.if_icmp .le 12, 3) := by decide +kernel
theorem zr21 : z_rt 21 = none := by decide +kernel
theorem zd21_73 : decode (z_b 21) 73 = .ok (.return_, 1) := by decide +kernel
theorem zd20_7 : decode (z_b 20) 7 = .ok (.iload_n 1, 1) := by decide +kernel
theorem zd20_8 : decode (z_b 20) 8 = .ok (.istore 5, 2) := by decide +kernel
theorem zr20 : z_rt 20 = none := by decide +kernel
theorem zd20_27 : decode (z_b 20) 27 = .ok (.return_, 1) := by decide +kernel
theorem zd176_70 : decode (z_b 176) 70 = .ok (.iconst 1, 1) := by decide +kernel
theorem zd176_71 : decode (z_b 176) 71 = .ok (.ireturn, 1) := by decide +kernel
theorem zd285_34 : decode (z_b 285) 34 = .ok (.aload_n 0, 1) := by decide +kernel
theorem zf285_97 : z_fF (z_oc 285) 97 = some ((49, [12]), "DoorBenchModel") := by decide +kernel
theorem zd285_35 : decode (z_b 285) 35 = .ok (.getfield 97, 3) := by decide +kernel
theorem zd285_38 : decode (z_b 285) 38 = .ok (.iload_n 1, 1) := by decide +kernel
theorem zd285_39 : decode (z_b 285) 39 = .ok (.bipush 20, 2) := by decide +kernel
theorem zd285_41 : decode (z_b 285) 41 = .ok (.iload_n 2, 1) := by decide +kernel
theorem zd285_42 : decode (z_b 285) 42 = .ok (.iadd, 1) := by decide +kernel
theorem zd285_43 : decode (z_b 285) 43 = .ok (.iastore, 1) := by decide +kernel
theorem zd285_44 : decode (z_b 285) 44 = .ok (.aload_n 0, 1) := by decide +kernel
theorem zf285_100 : z_fF (z_oc 285) 100 = some ((50, [12]), "DoorBenchModel") := by decide +kernel
theorem zd285_45 : decode (z_b 285) 45 = .ok (.getfield 100, 3) := by decide +kernel
theorem zd285_48 : decode (z_b 285) 48 = .ok (.iload_n 1, 1) := by decide +kernel
theorem zd285_49 : decode (z_b 285) 49 = .ok (.iload_n 3, 1) := by decide +kernel
theorem zd285_50 : decode (z_b 285) 50 = .ok (.iastore, 1) := by decide +kernel
theorem zd285_51 : decode (z_b 285) 51 = .ok (.bipush 60, 2) := by decide +kernel
theorem zd285_53 : decode (z_b 285) 53 = .ok (.iload_n 1, 1) := by decide +kernel
theorem zd285_54 : decode (z_b 285) 54 = .ok (.imul, 1) := by decide +kernel
theorem zd285_55 : decode (z_b 285) 55 = .ok (.istore 4, 2) := by decide +kernel
theorem zd285_83 : decode (z_b 285) 83 = .ok (.iconst 1, 1) := by decide +kernel
theorem zd285_84 : decode (z_b 285) 84 = .ok (.ireturn, 1) := by decide +kernel
theorem zd0_1549 : decode (z_b 0) 1549 = .ok (.aload_n 1, 1) := by decide +kernel
theorem zd0_1550 : decode (z_b 0) 1550 = .ok (.aload_n 0, 1) := by decide +kernel
theorem zd0_1551 : decode (z_b 0) 1551 = .ok (.iload_n 3, 1) := by decide +kernel
theorem zd0_1552 : decode (z_b 0) 1552 = .ok (.iconst 1, 1) := by decide +kernel
theorem zd0_1553 : decode (z_b 0) 1553 = .ok (.iadd, 1) := by decide +kernel
theorem zd0_1554 : decode (z_b 0) 1554 = .ok (.iaload, 1) := by decide +kernel
theorem zd0_1555 : decode (z_b 0) 1555 = .ok (.aload_n 0, 1) := by decide +kernel
theorem zd0_1556 : decode (z_b 0) 1556 = .ok (.iload_n 3, 1) := by decide +kernel
theorem zd0_1557 : decode (z_b 0) 1557 = .ok (.iconst 2, 1) := by decide +kernel
theorem zd0_1558 : decode (z_b 0) 1558 = .ok (.iadd, 1) := by decide +kernel
theorem zd0_1559 : decode (z_b 0) 1559 = .ok (.iaload, 1) := by decide +kernel
theorem zd0_1560 : decode (z_b 0) 1560 = .ok (.aload_n 0, 1) := by decide +kernel
theorem zd0_1561 : decode (z_b 0) 1561 = .ok (.iload_n 3, 1) := by decide +kernel
theorem zd0_1562 : decode (z_b 0) 1562 = .ok (.iconst 3, 1) := by decide +kernel
theorem zd0_1563 : decode (z_b 0) 1563 = .ok (.iadd, 1) := by decide +kernel
theorem zd0_1564 : decode (z_b 0) 1564 = .ok (.iaload, 1) := by decide +kernel
theorem zd0_1565 : decode (z_b 0) 1565 = .ok (.i2l, 1) := by decide +kernel
theorem zd0_1566 : decode (z_b 0) 1566 = .ok (.bipush 32, 2) := by decide +kernel
theorem zd0_1568 : decode (z_b 0) 1568 = .ok (.lshl, 1) := by decide +kernel
theorem zd0_1569 : decode (z_b 0) 1569 = .ok (.aload_n 0, 1) := by decide +kernel
theorem zd0_1570 : decode (z_b 0) 1570 = .ok (.iload_n 3, 1) := by decide +kernel
theorem zd0_1571 : decode (z_b 0) 1571 = .ok (.iconst 4, 1) := by decide +kernel
theorem zd0_1572 : decode (z_b 0) 1572 = .ok (.iadd, 1) := by decide +kernel
theorem zd0_1573 : decode (z_b 0) 1573 = .ok (.iaload, 1) := by decide +kernel
theorem zd0_1574 : decode (z_b 0) 1574 = .ok (.i2l, 1) := by decide +kernel
theorem zl0_151 : (z_find z_l2 (z_oc 0) 151).map (·.1) = some 4294967295 := by decide +kernel
theorem zd0_1575 : decode (z_b 0) 1575 = .ok (.ldc2_w 151, 3) := by decide +kernel
theorem zd0_1578 : decode (z_b 0) 1578 = .ok (.land, 1) := by decide +kernel
theorem zd0_1579 : decode (z_b 0) 1579 = .ok (.lor, 1) := by decide +kernel
theorem zcV0_153 : (z_find z_cV (z_oc 0) 153).map (·.1) = some (1, 3, [(0, 177)]) := by decide +kernel
theorem zd0_1580 : decode (z_b 0) 1580 = .ok (.invokevirtual 153, 3) := by decide +kernel
theorem zm177 : z_ml 177 = 6 := by decide +kernel
theorem zd177_0 : decode (z_b 177) 0 = .ok (.aload_n 0, 1) := by decide +kernel
theorem zd177_1 : decode (z_b 177) 1 = .ok (.iload_n 1, 1) := by decide +kernel
theorem zd177_2 : decode (z_b 177) 2 = .ok (.iload_n 2, 1) := by decide +kernel
theorem zcV177_313 : (z_find z_cV (z_oc 177) 313).map (·.1) = some (1, 2, [(0, 178)]) := by decide +kernel
theorem zd177_3 : decode (z_b 177) 3 = .ok (.invokevirtual 313, 3) := by decide +kernel
theorem zm178 : z_ml 178 = 3 := by decide +kernel
theorem zd178_0 : decode (z_b 178) 0 = .ok (.iload_n 1, 1) := by decide +kernel
theorem zcS178_148 : (z_find z_cS (z_oc 178) 148).map (·.1) = some (0, 1, [(0, 58)]) := by decide +kernel
theorem zd178_1 : decode (z_b 178) 1 = .ok (.invokestatic 148, 3) := by decide +kernel
theorem zd178_4 : decode (z_b 178) 4 = .ok (.ifCond .ne 5, 3) := by decide +kernel
theorem zd178_7 : decode (z_b 178) 7 = .ok (.iconst (-1), 1) := by decide +kernel
theorem zr178 : z_rt 178 = some (.int) := by decide +kernel
theorem zd178_8 : decode (z_b 178) 8 = .ok (.ireturn, 1) := by decide +kernel
theorem zd177_6 : decode (z_b 177) 6 = .ok (.istore 5, 2) := by decide +kernel
theorem zd177_8 : decode (z_b 177) 8 = .ok (.iload 5, 2) := by decide +kernel
theorem zd177_10 : decode (z_b 177) 10 = .ok (.ifCond .eq 6, 3) := by decide +kernel
theorem zd177_13 : decode (z_b 177) 13 = .ok (.iload 5, 2) := by decide +kernel
theorem zr177 : z_rt 177 = some (.int) := by decide +kernel
theorem zd177_15 : decode (z_b 177) 15 = .ok (.ireturn, 1) := by decide +kernel
theorem zd0_1583 : decode (z_b 0) 1583 = .ok (.aload_n 2, 1) := by decide +kernel
theorem zd0_1584 : decode (z_b 0) 1584 = .ok (.aload_n 0, 1) := by decide +kernel
theorem zd0_1585 : decode (z_b 0) 1585 = .ok (.iload_n 3, 1) := by decide +kernel
theorem zd0_1586 : decode (z_b 0) 1586 = .ok (.iconst 1, 1) := by decide +kernel
theorem zd0_1587 : decode (z_b 0) 1587 = .ok (.iadd, 1) := by decide +kernel
theorem zd0_1588 : decode (z_b 0) 1588 = .ok (.iaload, 1) := by decide +kernel
theorem zd0_1589 : decode (z_b 0) 1589 = .ok (.aload_n 0, 1) := by decide +kernel
theorem zd0_1590 : decode (z_b 0) 1590 = .ok (.iload_n 3, 1) := by decide +kernel
theorem zd0_1591 : decode (z_b 0) 1591 = .ok (.iconst 2, 1) := by decide +kernel
theorem zd0_1592 : decode (z_b 0) 1592 = .ok (.iadd, 1) := by decide +kernel
theorem zd0_1593 : decode (z_b 0) 1593 = .ok (.iaload, 1) := by decide +kernel
theorem zd0_1594 : decode (z_b 0) 1594 = .ok (.aload_n 0, 1) := by decide +kernel
theorem zd0_1595 : decode (z_b 0) 1595 = .ok (.iload_n 3, 1) := by decide +kernel
theorem zd0_1596 : decode (z_b 0) 1596 = .ok (.iconst 3, 1) := by decide +kernel
theorem zd0_1597 : decode (z_b 0) 1597 = .ok (.iadd, 1) := by decide +kernel
theorem zd0_1598 : decode (z_b 0) 1598 = .ok (.iaload, 1) := by decide +kernel
theorem zd0_1599 : decode (z_b 0) 1599 = .ok (.i2l, 1) := by decide +kernel
theorem zd0_1600 : decode (z_b 0) 1600 = .ok (.bipush 32, 2) := by decide +kernel
theorem zd0_1602 : decode (z_b 0) 1602 = .ok (.lshl, 1) := by decide +kernel
theorem zd0_1603 : decode (z_b 0) 1603 = .ok (.aload_n 0, 1) := by decide +kernel
theorem zd0_1604 : decode (z_b 0) 1604 = .ok (.iload_n 3, 1) := by decide +kernel
theorem zd0_1605 : decode (z_b 0) 1605 = .ok (.iconst 4, 1) := by decide +kernel
theorem zd0_1606 : decode (z_b 0) 1606 = .ok (.iadd, 1) := by decide +kernel
theorem zd0_1607 : decode (z_b 0) 1607 = .ok (.iaload, 1) := by decide +kernel
theorem zd0_1608 : decode (z_b 0) 1608 = .ok (.i2l, 1) := by decide +kernel
theorem zd0_1609 : decode (z_b 0) 1609 = .ok (.ldc2_w 151, 3) := by decide +kernel
theorem zd0_1612 : decode (z_b 0) 1612 = .ok (.land, 1) := by decide +kernel
theorem zd0_1613 : decode (z_b 0) 1613 = .ok (.lor, 1) := by decide +kernel
theorem zcV0_157 : (z_find z_cV (z_oc 0) 157).map (·.1) = some (1, 3, [(12, 286)]) := by decide +kernel
theorem zd0_1614 : decode (z_b 0) 1614 = .ok (.invokevirtual 157, 3) := by decide +kernel
theorem zm286 : z_ml 286 = 6 := by decide +kernel
theorem zd286_0 : decode (z_b 286) 0 = .ok (.aload_n 0, 1) := by decide +kernel
theorem zd286_1 : decode (z_b 286) 1 = .ok (.iload_n 1, 1) := by decide +kernel
theorem zd286_2 : decode (z_b 286) 2 = .ok (.iload_n 2, 1) := by decide +kernel
theorem zcV286_405 : (z_find z_cV (z_oc 286) 405).map (·.1) = some (1, 2, [(12, 287)]) := by decide +kernel
theorem zd286_3 : decode (z_b 286) 3 = .ok (.invokevirtual 405, 3) := by decide +kernel
theorem zm287 : z_ml 287 = 3 := by decide +kernel
theorem zd287_0 : decode (z_b 287) 0 = .ok (.iload_n 1, 1) := by decide +kernel
theorem zcS287_237 : (z_find z_cS (z_oc 287) 237).map (·.1) = some (0, 1, [(0, 225)]) := by decide +kernel
theorem zd287_1 : decode (z_b 287) 1 = .ok (.invokestatic 237, 3) := by decide +kernel
theorem zd287_4 : decode (z_b 287) 4 = .ok (.ifCond .ne 5, 3) := by decide +kernel
theorem zd287_7 : decode (z_b 287) 7 = .ok (.iconst (-1), 1) := by decide +kernel
theorem zr287 : z_rt 287 = some (.int) := by decide +kernel
theorem zd287_8 : decode (z_b 287) 8 = .ok (.ireturn, 1) := by decide +kernel
theorem zd286_6 : decode (z_b 286) 6 = .ok (.istore 5, 2) := by decide +kernel
theorem zd286_8 : decode (z_b 286) 8 = .ok (.iload 5, 2) := by decide +kernel
theorem zd286_10 : decode (z_b 286) 10 = .ok (.ifCond .ne 27, 3) := by decide +kernel
theorem zd286_37 : decode (z_b 286) 37 = .ok (.iload 5, 2) := by decide +kernel
theorem zd286_39 : decode (z_b 286) 39 = .ok (.ifCond .ne 7, 3) := by decide +kernel
theorem zd286_46 : decode (z_b 286) 46 = .ok (.iload 5, 2) := by decide +kernel
theorem zr286 : z_rt 286 = some (.int) := by decide +kernel
theorem zd286_48 : decode (z_b 286) 48 = .ok (.ireturn, 1) := by decide +kernel
theorem zd0_1617 : decode (z_b 0) 1617 = .ok (.if_icmp .eq 158, 3) := by decide +kernel
theorem zd178_9 : decode (z_b 178) 9 = .ok (.aload_n 0, 1) := by decide +kernel
theorem zf178_35 : z_fF (z_oc 178) 35 = some ((7, [0]), "DoorBench") := by decide +kernel
theorem zd178_10 : decode (z_b 178) 10 = .ok (.getfield 35, 3) := by decide +kernel
theorem zd178_13 : decode (z_b 178) 13 = .ok (.iload_n 1, 1) := by decide +kernel
theorem zd178_14 : decode (z_b 178) 14 = .ok (.iaload, 1) := by decide +kernel
theorem zd178_15 : decode (z_b 178) 15 = .ok (.iconst (-1), 1) := by decide +kernel
theorem zd178_16 : decode (z_b 178) 16 = .ok (.if_icmp .ne 6, 3) := by decide +kernel
theorem zd178_19 : decode (z_b 178) 19 = .ok (.bipush (-11), 2) := by decide +kernel
theorem zd178_21 : decode (z_b 178) 21 = .ok (.ireturn, 1) := by decide +kernel
theorem zd287_9 : decode (z_b 287) 9 = .ok (.aload_n 0, 1) := by decide +kernel
theorem zf287_97 : z_fF (z_oc 287) 97 = some ((49, [12]), "DoorBenchModel") := by decide +kernel
theorem zd287_10 : decode (z_b 287) 10 = .ok (.getfield 97, 3) := by decide +kernel
theorem zd287_13 : decode (z_b 287) 13 = .ok (.iload_n 1, 1) := by decide +kernel
theorem zd287_14 : decode (z_b 287) 14 = .ok (.iaload, 1) := by decide +kernel
theorem zd287_15 : decode (z_b 287) 15 = .ok (.ifCond .ge 6, 3) := by decide +kernel
theorem zd287_18 : decode (z_b 287) 18 = .ok (.bipush (-11), 2) := by decide +kernel
theorem zd287_20 : decode (z_b 287) 20 = .ok (.ireturn, 1) := by decide +kernel
theorem zd0_1622 : decode (z_b 0) 1622 = .ok (.aload_n 1, 1) := by decide +kernel
theorem zd0_1623 : decode (z_b 0) 1623 = .ok (.aload_n 0, 1) := by decide +kernel
theorem zd0_1624 : decode (z_b 0) 1624 = .ok (.iload_n 3, 1) := by decide +kernel
theorem zd0_1625 : decode (z_b 0) 1625 = .ok (.iconst 1, 1) := by decide +kernel
theorem zd0_1626 : decode (z_b 0) 1626 = .ok (.iadd, 1) := by decide +kernel
theorem zd0_1627 : decode (z_b 0) 1627 = .ok (.iaload, 1) := by decide +kernel
theorem zd0_1628 : decode (z_b 0) 1628 = .ok (.aload_n 0, 1) := by decide +kernel
theorem zd0_1629 : decode (z_b 0) 1629 = .ok (.iload_n 3, 1) := by decide +kernel
theorem zd0_1630 : decode (z_b 0) 1630 = .ok (.iconst 2, 1) := by decide +kernel
theorem zd0_1631 : decode (z_b 0) 1631 = .ok (.iadd, 1) := by decide +kernel
theorem zd0_1632 : decode (z_b 0) 1632 = .ok (.iaload, 1) := by decide +kernel
theorem zcV0_158 : (z_find z_cV (z_oc 0) 158).map (·.1) = some (1, 2, [(0, 180)]) := by decide +kernel
theorem zd0_1633 : decode (z_b 0) 1633 = .ok (.invokevirtual 158, 3) := by decide +kernel
theorem zm180 : z_ml 180 = 3 := by decide +kernel
theorem zd180_0 : decode (z_b 180) 0 = .ok (.aload_n 0, 1) := by decide +kernel
theorem zd180_1 : decode (z_b 180) 1 = .ok (.iload_n 1, 1) := by decide +kernel
theorem zd180_2 : decode (z_b 180) 2 = .ok (.iload_n 2, 1) := by decide +kernel
theorem zcV180_313 : (z_find z_cV (z_oc 180) 313).map (·.1) = some (1, 2, [(0, 178)]) := by decide +kernel
theorem zd180_3 : decode (z_b 180) 3 = .ok (.invokevirtual 313, 3) := by decide +kernel
theorem zd180_6 : decode (z_b 180) 6 = .ok (.ifCond .eq 7, 3) := by decide +kernel
theorem zl180_322 : (z_find z_l2 (z_oc 180) 322).map (·.1) = some (-9223372036854775808) := by decide +kernel
theorem zd180_9 : decode (z_b 180) 9 = .ok (.ldc2_w 322, 3) := by decide +kernel
theorem zr180 : z_rt 180 = some (.long) := by decide +kernel
theorem zd180_12 : decode (z_b 180) 12 = .ok (.lreturn, 1) := by decide +kernel
theorem zd0_1636 : decode (z_b 0) 1636 = .ok (.aload_n 2, 1) := by decide +kernel
theorem zd0_1637 : decode (z_b 0) 1637 = .ok (.aload_n 0, 1) := by decide +kernel
theorem zd0_1638 : decode (z_b 0) 1638 = .ok (.iload_n 3, 1) := by decide +kernel
theorem zd0_1639 : decode (z_b 0) 1639 = .ok (.iconst 1, 1) := by decide +kernel
theorem zd0_1640 : decode (z_b 0) 1640 = .ok (.iadd, 1) := by decide +kernel
theorem zd0_1641 : decode (z_b 0) 1641 = .ok (.iaload, 1) := by decide +kernel
theorem zd0_1642 : decode (z_b 0) 1642 = .ok (.aload_n 0, 1) := by decide +kernel
theorem zd0_1643 : decode (z_b 0) 1643 = .ok (.iload_n 3, 1) := by decide +kernel
theorem zd0_1644 : decode (z_b 0) 1644 = .ok (.iconst 2, 1) := by decide +kernel
theorem zd0_1645 : decode (z_b 0) 1645 = .ok (.iadd, 1) := by decide +kernel
theorem zd0_1646 : decode (z_b 0) 1646 = .ok (.iaload, 1) := by decide +kernel
theorem zcV0_162 : (z_find z_cV (z_oc 0) 162).map (·.1) = some (1, 2, [(12, 289)]) := by decide +kernel
theorem zd0_1647 : decode (z_b 0) 1647 = .ok (.invokevirtual 162, 3) := by decide +kernel
theorem zm289 : z_ml 289 = 3 := by decide +kernel
theorem zd289_0 : decode (z_b 289) 0 = .ok (.aload_n 0, 1) := by decide +kernel
theorem zd289_1 : decode (z_b 289) 1 = .ok (.iload_n 1, 1) := by decide +kernel
theorem zd289_2 : decode (z_b 289) 2 = .ok (.iload_n 2, 1) := by decide +kernel
theorem zcV289_405 : (z_find z_cV (z_oc 289) 405).map (·.1) = some (1, 2, [(12, 287)]) := by decide +kernel
theorem zd289_3 : decode (z_b 289) 3 = .ok (.invokevirtual 405, 3) := by decide +kernel
theorem zd289_6 : decode (z_b 289) 6 = .ok (.ifCond .eq 9, 3) := by decide +kernel
theorem zl289_414 : (z_find z_l2 (z_oc 289) 414).map (·.1) = some (-9223372036854775808) := by decide +kernel
theorem zd289_9 : decode (z_b 289) 9 = .ok (.ldc2_w 414, 3) := by decide +kernel
theorem zd289_12 : decode (z_b 289) 12 = .ok (.goto 14, 3) := by decide +kernel
theorem zr289 : z_rt 289 = some (.long) := by decide +kernel
theorem zd289_26 : decode (z_b 289) 26 = .ok (.lreturn, 1) := by decide +kernel
theorem zd0_1650 : decode (z_b 0) 1650 = .ok (.lcmp, 1) := by decide +kernel
theorem zd0_1651 : decode (z_b 0) 1651 = .ok (.ifCond .eq 124, 3) := by decide +kernel
theorem zd0_1656 : decode (z_b 0) 1656 = .ok (.aload_n 1, 1) := by decide +kernel
theorem zd0_1657 : decode (z_b 0) 1657 = .ok (.aload_n 0, 1) := by decide +kernel
theorem zd0_1658 : decode (z_b 0) 1658 = .ok (.iload_n 3, 1) := by decide +kernel
theorem zd0_1659 : decode (z_b 0) 1659 = .ok (.iconst 1, 1) := by decide +kernel
theorem zd0_1660 : decode (z_b 0) 1660 = .ok (.iadd, 1) := by decide +kernel
theorem zd0_1661 : decode (z_b 0) 1661 = .ok (.iaload, 1) := by decide +kernel
theorem zd0_1662 : decode (z_b 0) 1662 = .ok (.aload_n 0, 1) := by decide +kernel
theorem zd0_1663 : decode (z_b 0) 1663 = .ok (.iload_n 3, 1) := by decide +kernel
theorem zd0_1664 : decode (z_b 0) 1664 = .ok (.iconst 2, 1) := by decide +kernel
theorem zd0_1665 : decode (z_b 0) 1665 = .ok (.iadd, 1) := by decide +kernel
theorem zd0_1666 : decode (z_b 0) 1666 = .ok (.iaload, 1) := by decide +kernel
theorem zd0_1667 : decode (z_b 0) 1667 = .ok (.aload_n 0, 1) := by decide +kernel
theorem zd0_1668 : decode (z_b 0) 1668 = .ok (.iload_n 3, 1) := by decide +kernel
theorem zd0_1669 : decode (z_b 0) 1669 = .ok (.iconst 3, 1) := by decide +kernel
theorem zd0_1670 : decode (z_b 0) 1670 = .ok (.iadd, 1) := by decide +kernel
theorem zd0_1671 : decode (z_b 0) 1671 = .ok (.iaload, 1) := by decide +kernel
theorem zd0_1672 : decode (z_b 0) 1672 = .ok (.aload_n 0, 1) := by decide +kernel
theorem zd0_1673 : decode (z_b 0) 1673 = .ok (.iload_n 3, 1) := by decide +kernel
theorem zd0_1674 : decode (z_b 0) 1674 = .ok (.iconst 4, 1) := by decide +kernel
theorem zd0_1675 : decode (z_b 0) 1675 = .ok (.iadd, 1) := by decide +kernel
theorem zd0_1676 : decode (z_b 0) 1676 = .ok (.iaload, 1) := by decide +kernel
theorem zd0_1677 : decode (z_b 0) 1677 = .ok (.aload_n 0, 1) := by decide +kernel
theorem zd0_1678 : decode (z_b 0) 1678 = .ok (.iload_n 3, 1) := by decide +kernel
theorem zd0_1679 : decode (z_b 0) 1679 = .ok (.iconst 5, 1) := by decide +kernel
theorem zd0_1680 : decode (z_b 0) 1680 = .ok (.iadd, 1) := by decide +kernel
theorem zd0_1681 : decode (z_b 0) 1681 = .ok (.iaload, 1) := by decide +kernel
theorem zcV0_163 : (z_find z_cV (z_oc 0) 163).map (·.1) = some (1, 5, [(0, 181)]) := by decide +kernel
theorem zd0_1682 : decode (z_b 0) 1682 = .ok (.invokevirtual 163, 3) := by decide +kernel
theorem zm181 : z_ml 181 = 6 := by decide +kernel
theorem zd181_0 : decode (z_b 181) 0 = .ok (.iload_n 1, 1) := by decide +kernel
theorem zcS181_148 : (z_find z_cS (z_oc 181) 148).map (·.1) = some (0, 1, [(0, 58)]) := by decide +kernel
theorem zd181_1 : decode (z_b 181) 1 = .ok (.invokestatic 148, 3) := by decide +kernel
theorem zd181_4 : decode (z_b 181) 4 = .ok (.ifCond .eq 10, 3) := by decide +kernel
theorem zd181_14 : decode (z_b 181) 14 = .ok (.iconst (-1), 1) := by decide +kernel
theorem zr181 : z_rt 181 = some (.int) := by decide +kernel
theorem zd181_15 : decode (z_b 181) 15 = .ok (.ireturn, 1) := by decide +kernel
theorem zd0_1685 : decode (z_b 0) 1685 = .ok (.aload_n 2, 1) := by decide +kernel
theorem zd0_1686 : decode (z_b 0) 1686 = .ok (.aload_n 0, 1) := by decide +kernel
theorem zd0_1687 : decode (z_b 0) 1687 = .ok (.iload_n 3, 1) := by decide +kernel
theorem zd0_1688 : decode (z_b 0) 1688 = .ok (.iconst 1, 1) := by decide +kernel
theorem zd0_1689 : decode (z_b 0) 1689 = .ok (.iadd, 1) := by decide +kernel
theorem zd0_1690 : decode (z_b 0) 1690 = .ok (.iaload, 1) := by decide +kernel
theorem zd0_1691 : decode (z_b 0) 1691 = .ok (.aload_n 0, 1) := by decide +kernel
theorem zd0_1692 : decode (z_b 0) 1692 = .ok (.iload_n 3, 1) := by decide +kernel
theorem zd0_1693 : decode (z_b 0) 1693 = .ok (.iconst 2, 1) := by decide +kernel
theorem zd0_1694 : decode (z_b 0) 1694 = .ok (.iadd, 1) := by decide +kernel
theorem zd0_1695 : decode (z_b 0) 1695 = .ok (.iaload, 1) := by decide +kernel
theorem zd0_1696 : decode (z_b 0) 1696 = .ok (.aload_n 0, 1) := by decide +kernel
theorem zd0_1697 : decode (z_b 0) 1697 = .ok (.iload_n 3, 1) := by decide +kernel
theorem zd0_1698 : decode (z_b 0) 1698 = .ok (.iconst 3, 1) := by decide +kernel
theorem zd0_1699 : decode (z_b 0) 1699 = .ok (.iadd, 1) := by decide +kernel
theorem zd0_1700 : decode (z_b 0) 1700 = .ok (.iaload, 1) := by decide +kernel
theorem zd0_1701 : decode (z_b 0) 1701 = .ok (.aload_n 0, 1) := by decide +kernel
theorem zd0_1702 : decode (z_b 0) 1702 = .ok (.iload_n 3, 1) := by decide +kernel
theorem zd0_1703 : decode (z_b 0) 1703 = .ok (.iconst 4, 1) := by decide +kernel
theorem zd0_1704 : decode (z_b 0) 1704 = .ok (.iadd, 1) := by decide +kernel
theorem zd0_1705 : decode (z_b 0) 1705 = .ok (.iaload, 1) := by decide +kernel
theorem zd0_1706 : decode (z_b 0) 1706 = .ok (.aload_n 0, 1) := by decide +kernel
theorem zd0_1707 : decode (z_b 0) 1707 = .ok (.iload_n 3, 1) := by decide +kernel
theorem zd0_1708 : decode (z_b 0) 1708 = .ok (.iconst 5, 1) := by decide +kernel
theorem zd0_1709 : decode (z_b 0) 1709 = .ok (.iadd, 1) := by decide +kernel
theorem zd0_1710 : decode (z_b 0) 1710 = .ok (.iaload, 1) := by decide +kernel
theorem zcV0_166 : (z_find z_cV (z_oc 0) 166).map (·.1) = some (1, 5, [(12, 290)]) := by decide +kernel
theorem zd0_1711 : decode (z_b 0) 1711 = .ok (.invokevirtual 166, 3) := by decide +kernel
theorem zm290 : z_ml 290 = 7 := by decide +kernel
theorem zd290_0 : decode (z_b 290) 0 = .ok (.iload_n 1, 1) := by decide +kernel
theorem zcS290_237 : (z_find z_cS (z_oc 290) 237).map (·.1) = some (0, 1, [(0, 225)]) := by decide +kernel
theorem zd290_1 : decode (z_b 290) 1 = .ok (.invokestatic 237, 3) := by decide +kernel
theorem zd290_4 : decode (z_b 290) 4 = .ok (.ifCond .eq 10, 3) := by decide +kernel
theorem zd290_14 : decode (z_b 290) 14 = .ok (.iconst (-1), 1) := by decide +kernel
theorem zr290 : z_rt 290 = some (.int) := by decide +kernel
theorem zd290_15 : decode (z_b 290) 15 = .ok (.ireturn, 1) := by decide +kernel
theorem zd0_1714 : decode (z_b 0) 1714 = .ok (.if_icmp .eq 61, 3) := by decide +kernel
theorem zd181_7 : decode (z_b 181) 7 = .ok (.iload_n 3, 1) := by decide +kernel
theorem zd181_8 : decode (z_b 181) 8 = .ok (.invokestatic 148, 3) := by decide +kernel
theorem zd181_11 : decode (z_b 181) 11 = .ok (.ifCond .ne 5, 3) := by decide +kernel
theorem zd290_7 : decode (z_b 290) 7 = .ok (.iload_n 3, 1) := by decide +kernel
theorem zd290_8 : decode (z_b 290) 8 = .ok (.invokestatic 237, 3) := by decide +kernel
theorem zd290_11 : decode (z_b 290) 11 = .ok (.ifCond .ne 5, 3) := by decide +kernel
theorem zd181_16 : decode (z_b 181) 16 = .ok (.aload_n 0, 1) := by decide +kernel
theorem zf181_35 : z_fF (z_oc 181) 35 = some ((7, [0]), "DoorBench") := by decide +kernel
theorem zd181_17 : decode (z_b 181) 17 = .ok (.getfield 35, 3) := by decide +kernel
theorem zd181_20 : decode (z_b 181) 20 = .ok (.iload_n 1, 1) := by decide +kernel
theorem zd181_21 : decode (z_b 181) 21 = .ok (.iaload, 1) := by decide +kernel
theorem zd181_22 : decode (z_b 181) 22 = .ok (.iconst (-1), 1) := by decide +kernel
theorem zd181_23 : decode (z_b 181) 23 = .ok (.if_icmp .eq 13, 3) := by decide +kernel
theorem zd181_36 : decode (z_b 181) 36 = .ok (.bipush (-11), 2) := by decide +kernel
theorem zd181_38 : decode (z_b 181) 38 = .ok (.ireturn, 1) := by decide +kernel
theorem zd290_16 : decode (z_b 290) 16 = .ok (.aload_n 0, 1) := by decide +kernel
theorem zf290_97 : z_fF (z_oc 290) 97 = some ((49, [12]), "DoorBenchModel") := by decide +kernel
theorem zd290_17 : decode (z_b 290) 17 = .ok (.getfield 97, 3) := by decide +kernel
theorem zd290_20 : decode (z_b 290) 20 = .ok (.iload_n 1, 1) := by decide +kernel
theorem zd290_21 : decode (z_b 290) 21 = .ok (.iaload, 1) := by decide +kernel
theorem zd290_22 : decode (z_b 290) 22 = .ok (.ifCond .lt 12, 3) := by decide +kernel
theorem zd290_34 : decode (z_b 290) 34 = .ok (.bipush (-11), 2) := by decide +kernel
theorem zd290_36 : decode (z_b 290) 36 = .ok (.ireturn, 1) := by decide +kernel
theorem zd0_1719 : decode (z_b 0) 1719 = .ok (.aload_n 1, 1) := by decide +kernel
theorem zd0_1720 : decode (z_b 0) 1720 = .ok (.aload_n 0, 1) := by decide +kernel
theorem zd0_1721 : decode (z_b 0) 1721 = .ok (.iload_n 3, 1) := by decide +kernel
theorem zd0_1722 : decode (z_b 0) 1722 = .ok (.iconst 1, 1) := by decide +kernel
theorem zd0_1723 : decode (z_b 0) 1723 = .ok (.iadd, 1) := by decide +kernel
theorem zd0_1724 : decode (z_b 0) 1724 = .ok (.iaload, 1) := by decide +kernel
theorem zd0_1725 : decode (z_b 0) 1725 = .ok (.aload_n 0, 1) := by decide +kernel
theorem zd0_1726 : decode (z_b 0) 1726 = .ok (.iload_n 3, 1) := by decide +kernel
theorem zd0_1727 : decode (z_b 0) 1727 = .ok (.iconst 2, 1) := by decide +kernel
theorem zd0_1728 : decode (z_b 0) 1728 = .ok (.iadd, 1) := by decide +kernel
theorem zd0_1729 : decode (z_b 0) 1729 = .ok (.iaload, 1) := by decide +kernel
theorem zcV0_167 : (z_find z_cV (z_oc 0) 167).map (·.1) = some (1, 2, [(0, 183)]) := by decide +kernel
theorem zd0_1730 : decode (z_b 0) 1730 = .ok (.invokevirtual 167, 3) := by decide +kernel
theorem zm183 : z_ml 183 = 4 := by decide +kernel
theorem zd183_0 : decode (z_b 183) 0 = .ok (.iload_n 1, 1) := by decide +kernel
theorem zcS183_148 : (z_find z_cS (z_oc 183) 148).map (·.1) = some (0, 1, [(0, 58)]) := by decide +kernel
theorem zd183_1 : decode (z_b 183) 1 = .ok (.invokestatic 148, 3) := by decide +kernel
theorem zd183_4 : decode (z_b 183) 4 = .ok (.ifCond .eq 15, 3) := by decide +kernel
theorem zd183_19 : decode (z_b 183) 19 = .ok (.iconst (-1), 1) := by decide +kernel
theorem zr183 : z_rt 183 = some (.int) := by decide +kernel
theorem zd183_20 : decode (z_b 183) 20 = .ok (.ireturn, 1) := by decide +kernel
theorem zd0_1733 : decode (z_b 0) 1733 = .ok (.aload_n 2, 1) := by decide +kernel
theorem zd0_1734 : decode (z_b 0) 1734 = .ok (.aload_n 0, 1) := by decide +kernel
theorem zd0_1735 : decode (z_b 0) 1735 = .ok (.iload_n 3, 1) := by decide +kernel
theorem zd0_1736 : decode (z_b 0) 1736 = .ok (.iconst 1, 1) := by decide +kernel
theorem zd0_1737 : decode (z_b 0) 1737 = .ok (.iadd, 1) := by decide +kernel
theorem zd0_1738 : decode (z_b 0) 1738 = .ok (.iaload, 1) := by decide +kernel
theorem zd0_1739 : decode (z_b 0) 1739 = .ok (.aload_n 0, 1) := by decide +kernel
theorem zd0_1740 : decode (z_b 0) 1740 = .ok (.iload_n 3, 1) := by decide +kernel
theorem zd0_1741 : decode (z_b 0) 1741 = .ok (.iconst 2, 1) := by decide +kernel
theorem zd0_1742 : decode (z_b 0) 1742 = .ok (.iadd, 1) := by decide +kernel
theorem zd0_1743 : decode (z_b 0) 1743 = .ok (.iaload, 1) := by decide +kernel
theorem zcV0_170 : (z_find z_cV (z_oc 0) 170).map (·.1) = some (1, 2, [(12, 291)]) := by decide +kernel
theorem zd0_1744 : decode (z_b 0) 1744 = .ok (.invokevirtual 170, 3) := by decide +kernel
theorem zm291 : z_ml 291 = 4 := by decide +kernel
theorem zd291_0 : decode (z_b 291) 0 = .ok (.iload_n 1, 1) := by decide +kernel
theorem zcS291_237 : (z_find z_cS (z_oc 291) 237).map (·.1) = some (0, 1, [(0, 225)]) := by decide +kernel
theorem zd291_1 : decode (z_b 291) 1 = .ok (.invokestatic 237, 3) := by decide +kernel
theorem zd291_4 : decode (z_b 291) 4 = .ok (.ifCond .eq 15, 3) := by decide +kernel
theorem zd291_19 : decode (z_b 291) 19 = .ok (.iconst (-1), 1) := by decide +kernel
theorem zr291 : z_rt 291 = some (.int) := by decide +kernel
theorem zd291_20 : decode (z_b 291) 20 = .ok (.ireturn, 1) := by decide +kernel
theorem zd0_1747 : decode (z_b 0) 1747 = .ok (.if_icmp .eq 28, 3) := by decide +kernel
theorem zd183_7 : decode (z_b 183) 7 = .ok (.iload_n 2, 1) := by decide +kernel
theorem zd183_8 : decode (z_b 183) 8 = .ok (.ifCond .lt 11, 3) := by decide +kernel
theorem zd291_7 : decode (z_b 291) 7 = .ok (.iload_n 2, 1) := by decide +kernel
theorem zd291_8 : decode (z_b 291) 8 = .ok (.i2l, 1) := by decide +kernel
theorem zd291_9 : decode (z_b 291) 9 = .ok (.lconst 0, 1) := by decide +kernel
theorem zl291_265 : (z_find z_l2 (z_oc 291) 265).map (·.1) = some 7 := by decide +kernel
theorem zd291_10 : decode (z_b 291) 10 = .ok (.ldc2_w 265, 3) := by decide +kernel
theorem zcS291_116 : (z_find z_cS (z_oc 291) 116).map (·.1) = some (0, 3, [(0, 189)]) := by decide +kernel
theorem zd291_13 : decode (z_b 291) 13 = .ok (.invokestatic 116, 3) := by decide +kernel
theorem zd291_16 : decode (z_b 291) 16 = .ok (.ifCond .ne 5, 3) := by decide +kernel
theorem zd183_11 : decode (z_b 183) 11 = .ok (.iload_n 2, 1) := by decide +kernel
theorem zg183_185 : (z_find z_gs (z_oc 183) 185).map (·.1) = some 3 := by decide +kernel
theorem zd183_12 : decode (z_b 183) 12 = .ok (.getstatic 185, 3) := by decide +kernel
theorem zd183_15 : decode (z_b 183) 15 = .ok (.arraylength, 1) := by decide +kernel
theorem zd183_16 : decode (z_b 183) 16 = .ok (.if_icmp .lt 5, 3) := by decide +kernel
theorem zd183_21 : decode (z_b 183) 21 = .ok (.aload_n 0, 1) := by decide +kernel
theorem zf183_35 : z_fF (z_oc 183) 35 = some ((7, [0]), "DoorBench") := by decide +kernel
theorem zd183_22 : decode (z_b 183) 22 = .ok (.getfield 35, 3) := by decide +kernel
theorem zd183_25 : decode (z_b 183) 25 = .ok (.iload_n 1, 1) := by decide +kernel
theorem zd183_26 : decode (z_b 183) 26 = .ok (.iaload, 1) := by decide +kernel
theorem zd183_27 : decode (z_b 183) 27 = .ok (.iconst (-1), 1) := by decide +kernel
theorem zd183_28 : decode (z_b 183) 28 = .ok (.if_icmp .ne 6, 3) := by decide +kernel
theorem zd183_31 : decode (z_b 183) 31 = .ok (.bipush (-11), 2) := by decide +kernel
theorem zd183_33 : decode (z_b 183) 33 = .ok (.ireturn, 1) := by decide +kernel
theorem zd291_21 : decode (z_b 291) 21 = .ok (.aload_n 0, 1) := by decide +kernel
theorem zf291_97 : z_fF (z_oc 291) 97 = some ((49, [12]), "DoorBenchModel") := by decide +kernel
theorem zd291_22 : decode (z_b 291) 22 = .ok (.getfield 97, 3) := by decide +kernel
theorem zd291_25 : decode (z_b 291) 25 = .ok (.iload_n 1, 1) := by decide +kernel
theorem zd291_26 : decode (z_b 291) 26 = .ok (.iaload, 1) := by decide +kernel
theorem zd291_27 : decode (z_b 291) 27 = .ok (.ifCond .ge 6, 3) := by decide +kernel
theorem zd291_30 : decode (z_b 291) 30 = .ok (.bipush (-11), 2) := by decide +kernel
theorem zd291_32 : decode (z_b 291) 32 = .ok (.ireturn, 1) := by decide +kernel
theorem zd0_1752 : decode (z_b 0) 1752 = .ok (.aload_n 1, 1) := by decide +kernel
theorem zd0_1753 : decode (z_b 0) 1753 = .ok (.aload_n 0, 1) := by decide +kernel
theorem zd0_1754 : decode (z_b 0) 1754 = .ok (.iload_n 3, 1) := by decide +kernel
theorem zd0_1755 : decode (z_b 0) 1755 = .ok (.iconst 1, 1) := by decide +kernel
theorem zd0_1756 : decode (z_b 0) 1756 = .ok (.iadd, 1) := by decide +kernel
theorem zd0_1757 : decode (z_b 0) 1757 = .ok (.iaload, 1) := by decide +kernel
theorem zcV0_171 : (z_find z_cV (z_oc 0) 171).map (·.1) = some (1, 1, [(0, 185)]) := by decide +kernel
theorem zd0_1758 : decode (z_b 0) 1758 = .ok (.invokevirtual 171, 3) := by decide +kernel
theorem zm185 : z_ml 185 = 2 := by decide +kernel
theorem zd185_0 : decode (z_b 185) 0 = .ok (.iload_n 1, 1) := by decide +kernel
theorem zd185_1 : decode (z_b 185) 1 = .ok (.tableswitch 65 0 4 #[35, 40, 45, 53, 58], 35) := by decide +kernel
theorem zd185_36 : decode (z_b 185) 36 = .ok (.aload_n 0, 1) := by decide +kernel
theorem zf185_59 : z_fF (z_oc 185) 59 = some ((3, [0]), "DoorBench") := by decide +kernel
theorem zd185_37 : decode (z_b 185) 37 = .ok (.getfield 59, 3) := by decide +kernel
theorem zr185 : z_rt 185 = some (.int) := by decide +kernel
theorem zd185_40 : decode (z_b 185) 40 = .ok (.ireturn, 1) := by decide +kernel
theorem zd0_1761 : decode (z_b 0) 1761 = .ok (.aload_n 2, 1) := by decide +kernel
theorem zd0_1762 : decode (z_b 0) 1762 = .ok (.aload_n 0, 1) := by decide +kernel
theorem zd0_1763 : decode (z_b 0) 1763 = .ok (.iload_n 3, 1) := by decide +kernel
theorem zd0_1764 : decode (z_b 0) 1764 = .ok (.iconst 1, 1) := by decide +kernel
theorem zd0_1765 : decode (z_b 0) 1765 = .ok (.iadd, 1) := by decide +kernel
theorem zd0_1766 : decode (z_b 0) 1766 = .ok (.iaload, 1) := by decide +kernel
theorem zcV0_174 : (z_find z_cV (z_oc 0) 174).map (·.1) = some (1, 1, [(12, 292)]) := by decide +kernel
theorem zd0_1767 : decode (z_b 0) 1767 = .ok (.invokevirtual 174, 3) := by decide +kernel
theorem zm292 : z_ml 292 = 4 := by decide +kernel
theorem zd292_0 : decode (z_b 292) 0 = .ok (.iconst 0, 1) := by decide +kernel
theorem zd292_1 : decode (z_b 292) 1 = .ok (.istore_n 2, 1) := by decide +kernel
theorem zd292_2 : decode (z_b 292) 2 = .ok (.iconst 0, 1) := by decide +kernel
theorem zd292_3 : decode (z_b 292) 3 = .ok (.istore_n 3, 1) := by decide +kernel
theorem zd292_4 : decode (z_b 292) 4 = .ok (.iload_n 3, 1) := by decide +kernel
theorem zd292_5 : decode (z_b 292) 5 = .ok (.aload_n 0, 1) := by decide +kernel
theorem zf292_110 : z_fF (z_oc 292) 110 = some ((13, [12]), "DoorBenchModel") := by decide +kernel
theorem zd292_6 : decode (z_b 292) 6 = .ok (.getfield 110, 3) := by decide +kernel
theorem zd292_9 : decode (z_b 292) 9 = .ok (.if_icmp .ge 18, 3) := by decide +kernel
theorem zd292_27 : decode (z_b 292) 27 = .ok (.iload_n 1, 1) := by decide +kernel
theorem zd292_28 : decode (z_b 292) 28 = .ok (.tableswitch 58 0 4 #[36, 41, 46, 51, 53], 36) := by decide +kernel
theorem zd292_64 : decode (z_b 292) 64 = .ok (.aload_n 0, 1) := by decide +kernel
theorem zd292_65 : decode (z_b 292) 65 = .ok (.getfield 110, 3) := by decide +kernel
theorem zr292 : z_rt 292 = some (.int) := by decide +kernel
theorem zd292_68 : decode (z_b 292) 68 = .ok (.ireturn, 1) := by decide +kernel
theorem zd0_1770 : decode (z_b 0) 1770 = .ok (.if_icmp .eq 5, 3) := by decide +kernel
theorem zd185_41 : decode (z_b 185) 41 = .ok (.aload_n 0, 1) := by decide +kernel
theorem zf185_188 : z_fF (z_oc 185) 188 = some ((5, [0]), "DoorBench") := by decide +kernel
theorem zd185_42 : decode (z_b 185) 42 = .ok (.getfield 188, 3) := by decide +kernel
theorem zd185_45 : decode (z_b 185) 45 = .ok (.ireturn, 1) := by decide +kernel
theorem zd292_69 : decode (z_b 292) 69 = .ok (.aload_n 0, 1) := by decide +kernel
theorem zf292_269 : z_fF (z_oc 292) 269 = some ((21, [12]), "DoorBenchModel") := by decide +kernel
theorem zd292_70 : decode (z_b 292) 70 = .ok (.getfield 269, 3) := by decide +kernel
theorem zd292_73 : decode (z_b 292) 73 = .ok (.ireturn, 1) := by decide +kernel
theorem zd185_46 : decode (z_b 185) 46 = .ok (.aload_n 0, 1) := by decide +kernel
theorem zf185_10 : z_fF (z_oc 185) 10 = some ((0, [0]), "DoorBench") := by decide +kernel
theorem zd185_47 : decode (z_b 185) 47 = .ok (.getfield 10, 3) := by decide +kernel
theorem zf185_55 : z_fF (z_oc 185) 55 = some ((1, [1]), "DoorBench$Tape") := by decide +kernel
theorem zd185_50 : decode (z_b 185) 50 = .ok (.getfield 55, 3) := by decide +kernel
theorem zd185_53 : decode (z_b 185) 53 = .ok (.ireturn, 1) := by decide +kernel
theorem zd292_74 : decode (z_b 292) 74 = .ok (.aload_n 0, 1) := by decide +kernel
theorem zf292_120 : z_fF (z_oc 292) 120 = some ((1, [12]), "DoorBenchModel") := by decide +kernel
theorem zd292_75 : decode (z_b 292) 75 = .ok (.getfield 120, 3) := by decide +kernel
theorem zd292_78 : decode (z_b 292) 78 = .ok (.ireturn, 1) := by decide +kernel
theorem zd185_54 : decode (z_b 185) 54 = .ok (.aload_n 0, 1) := by decide +kernel
theorem zcV185_337 : (z_find z_cV (z_oc 185) 337).map (·.1) = some (1, 0, [(0, 186)]) := by decide +kernel
theorem zd185_55 : decode (z_b 185) 55 = .ok (.invokevirtual 337, 3) := by decide +kernel
theorem zm186 : z_ml 186 = 3 := by decide +kernel
theorem zd186_0 : decode (z_b 186) 0 = .ok (.iconst 0, 1) := by decide +kernel
theorem zd186_1 : decode (z_b 186) 1 = .ok (.istore_n 1, 1) := by decide +kernel
theorem zd186_2 : decode (z_b 186) 2 = .ok (.iconst 0, 1) := by decide +kernel
theorem zd186_3 : decode (z_b 186) 3 = .ok (.istore_n 2, 1) := by decide +kernel
theorem zd186_4 : decode (z_b 186) 4 = .ok (.iload_n 2, 1) := by decide +kernel
theorem zd186_5 : decode (z_b 186) 5 = .ok (.aload_n 0, 1) := by decide +kernel
theorem zf186_59 : z_fF (z_oc 186) 59 = some ((3, [0]), "DoorBench") := by decide +kernel
theorem zd186_6 : decode (z_b 186) 6 = .ok (.getfield 59, 3) := by decide +kernel
theorem zd186_9 : decode (z_b 186) 9 = .ok (.if_icmp .ge 21, 3) := by decide +kernel
theorem zd186_30 : decode (z_b 186) 30 = .ok (.iload_n 1, 1) := by decide +kernel
theorem zr186 : z_rt 186 = some (.int) := by decide +kernel
theorem zd186_31 : decode (z_b 186) 31 = .ok (.ireturn, 1) := by decide +kernel
theorem zd185_58 : decode (z_b 185) 58 = .ok (.ireturn, 1) := by decide +kernel
theorem zd292_79 : decode (z_b 292) 79 = .ok (.iload_n 2, 1) := by decide +kernel
theorem zd292_80 : decode (z_b 292) 80 = .ok (.ireturn, 1) := by decide +kernel
theorem zd185_59 : decode (z_b 185) 59 = .ok (.aload_n 0, 1) := by decide +kernel
theorem zf185_31 : z_fF (z_oc 185) 31 = some ((6, [0]), "DoorBench") := by decide +kernel
theorem zd185_60 : decode (z_b 185) 60 = .ok (.getfield 31, 3) := by decide +kernel
theorem zd185_63 : decode (z_b 185) 63 = .ok (.iconst 0, 1) := by decide +kernel
theorem zd185_64 : decode (z_b 185) 64 = .ok (.iaload, 1) := by decide +kernel
theorem zd185_65 : decode (z_b 185) 65 = .ok (.ireturn, 1) := by decide +kernel
theorem zd292_81 : decode (z_b 292) 81 = .ok (.aload_n 0, 1) := by decide +kernel
theorem zf292_381 : z_fF (z_oc 292) 381 = some ((47, [12]), "DoorBenchModel") := by decide +kernel
theorem zd292_82 : decode (z_b 292) 82 = .ok (.getfield 381, 3) := by decide +kernel
theorem zd292_85 : decode (z_b 292) 85 = .ok (.ireturn, 1) := by decide +kernel
theorem zd185_66 : decode (z_b 185) 66 = .ok (.iconst (-1), 1) := by decide +kernel
theorem zd185_67 : decode (z_b 185) 67 = .ok (.ireturn, 1) := by decide +kernel
theorem zd292_86 : decode (z_b 292) 86 = .ok (.iconst (-1), 1) := by decide +kernel
theorem zd292_87 : decode (z_b 292) 87 = .ok (.ireturn, 1) := by decide +kernel
theorem zd20_10 : decode (z_b 20) 10 = .ok (.iload 5, 2) := by decide +kernel
theorem zd20_12 : decode (z_b 20) 12 = .ok (.iload_n 2, 1) := by decide +kernel
theorem zd20_13 : decode (z_b 20) 13 = .ok (.if_icmp .ge 14, 3) := by decide +kernel
theorem zd20_16 : decode (z_b 20) 16 = .ok (.aload_n 0, 1) := by decide +kernel
theorem zd20_17 : decode (z_b 20) 17 = .ok (.iload 5, 2) := by decide +kernel
theorem zd20_19 : decode (z_b 20) 19 = .ok (.lload_n 3, 1) := by decide +kernel
theorem zd20_20 : decode (z_b 20) 20 = .ok (.lastore, 1) := by decide +kernel
theorem zd20_21 : decode (z_b 20) 21 = .ok (.iinc 5 1, 3) := by decide +kernel
theorem zd20_24 : decode (z_b 20) 24 = .ok (.goto (-14), 3) := by decide +kernel
theorem zd285_57 : decode (z_b 285) 57 = .ok (.iload 4, 2) := by decide +kernel
theorem zd285_59 : decode (z_b 285) 59 = .ok (.bipush 60, 2) := by decide +kernel
theorem zd285_61 : decode (z_b 285) 61 = .ok (.iload_n 1, 1) := by decide +kernel
theorem zd285_62 : decode (z_b 285) 62 = .ok (.imul, 1) := by decide +kernel
theorem zd285_63 : decode (z_b 285) 63 = .ok (.bipush 60, 2) := by decide +kernel
theorem zd285_65 : decode (z_b 285) 65 = .ok (.iadd, 1) := by decide +kernel
theorem zd285_66 : decode (z_b 285) 66 = .ok (.if_icmp .ge 17, 3) := by decide +kernel
theorem zd285_69 : decode (z_b 285) 69 = .ok (.aload_n 0, 1) := by decide +kernel
theorem zf285_103 : z_fF (z_oc 285) 103 = some ((51, [12]), "DoorBenchModel") := by decide +kernel
theorem zd285_70 : decode (z_b 285) 70 = .ok (.getfield 103, 3) := by decide +kernel
theorem zd285_73 : decode (z_b 285) 73 = .ok (.iload 4, 2) := by decide +kernel
theorem zd285_75 : decode (z_b 285) 75 = .ok (.lconst 0, 1) := by decide +kernel
theorem zd285_76 : decode (z_b 285) 76 = .ok (.lastore, 1) := by decide +kernel
theorem zd285_77 : decode (z_b 285) 77 = .ok (.iinc 4 1, 3) := by decide +kernel
theorem zd285_80 : decode (z_b 285) 80 = .ok (.goto (-23), 3) := by decide +kernel
theorem zd0_27 : decode (z_b 0) 27 = .ok (.aload_n 0, 1) := by decide +kernel
theorem zd0_28 : decode (z_b 0) 28 = .ok (.iload_n 3, 1) := by decide +kernel
theorem zd0_29 : decode (z_b 0) 29 = .ok (.iaload, 1) := by decide +kernel
theorem zd0_30 : decode (z_b 0) 30 = .ok (.bipush 63, 2) := by decide +kernel
theorem zd0_32 : decode (z_b 0) 32 = .ok (.iand, 1) := by decide +kernel
theorem zd0_33 : decode (z_b 0) 33 = .ok (.tableswitch 1742 0 37 #[167, 200, 213, 246, 279, 312, 355, 408, 451, 504, 557, 610, 633, 676, 719, 752, 785, 828, 861, 904, 937, 990, 1053, 1106, 1149, 1192, 1245, 1288, 1331, 1374, 1417, 1440, 1473, 1516, 1589, 1623, 1686, 1719], 167) := by decide +kernel
theorem zd0_0 : decode (z_b 0) 0 = .ok (.new 7, 3) := by decide +kernel
theorem zn0_7 : (z_find z_nw (z_oc 0) 7).map (·.1) = some 0 := by decide +kernel
theorem zd0_3 : decode (z_b 0) 3 = .ok (.dup, 1) := by decide +kernel
theorem zcI0_9 : (z_find z_cI (z_oc 0) 9).map (·.1) = some (3, 0, [(0, 1)]) := by decide +kernel
theorem zd0_4 : decode (z_b 0) 4 = .ok (.invokespecial 9, 3) := by decide +kernel
theorem zd0_7 : decode (z_b 0) 7 = .ok (.astore_n 1, 1) := by decide +kernel
theorem zd0_8 : decode (z_b 0) 8 = .ok (.new 10, 3) := by decide +kernel
theorem zn0_10 : (z_find z_nw (z_oc 0) 10).map (·.1) = some 12 := by decide +kernel
theorem zd0_11 : decode (z_b 0) 11 = .ok (.dup, 1) := by decide +kernel
theorem zcI0_12 : (z_find z_cI (z_oc 0) 12).map (·.1) = some (3, 0, [(0, 187)]) := by decide +kernel
theorem zd0_12 : decode (z_b 0) 12 = .ok (.invokespecial 12, 3) := by decide +kernel
theorem zd0_15 : decode (z_b 0) 15 = .ok (.astore_n 2, 1) := by decide +kernel
theorem zd0_16 : decode (z_b 0) 16 = .ok (.iconst 0, 1) := by decide +kernel
theorem zd0_17 : decode (z_b 0) 17 = .ok (.istore_n 3, 1) := by decide +kernel
