/-! rows of the law's roads -/
def z_fyl {α β : Type} (d : DecidableEq β) (c : List ((Nat × Nat) × (β × α))) (l : List ((Nat × Nat) × β)) : Bool := l.all fun e => decide ((z_find c e.1.1 e.1.2).map (·.1) = some e.2)
theorem z_fye {α β : Type} {d : DecidableEq β} {c : List ((Nat × Nat) × (β × α))} {l : List ((Nat × Nat) × β)} (h : z_fyl d c l = true) (n : Nat) {o i : Nat} {v : β} (hk : l[n]? = some ((o, i), v)) : (z_find c o i).map (·.1) = some v := of_decide_eq_true (List.all_eq_true.mp h ((o, i), v) (List.mem_of_getElem? hk))
def z_dl0_0 : List (Nat × Instr × Nat) := [(200, .aload_n 1, 1), (201, .aload_n 0, 1), (202, .iload_n 3, 1), (203, .iconst 1, 1), (204, .iadd, 1), (205, .iaload, 1), (206, .aload_n 0, 1), (207, .iload_n 3, 1), (208, .iconst 2, 1), (209, .iadd, 1), (210, .iaload, 1), (211, .invokevirtual 13, 3), (214, .pop, 1), (215, .aload_n 2, 1), (216, .aload_n 0, 1), (217, .iload_n 3, 1), (218, .iconst 1, 1), (219, .iadd, 1), (220, .iaload, 1), (221, .aload_n 0, 1), (222, .iload_n 3, 1), (223, .iconst 2, 1), (224, .iadd, 1), (225, .iaload, 1), (226, .invokevirtual 17, 3), (229, .pop, 1), (230, .goto 1544, 3), (233, .aload_n 1, 1), (234, .invokevirtual 18, 3), (237, .pop, 1), (238, .aload_n 2, 1), (239, .invokevirtual 22, 3), (242, .pop, 1), (243, .goto 1531, 3), (246, .aload_n 1, 1), (247, .aload_n 0, 1), (248, .iload_n 3, 1), (249, .iconst 1, 1), (250, .iadd, 1), (251, .iaload, 1)]
theorem z_dt0_0 : z_fwj 0 200 z_dl0_0 = true := by decide +kernel
theorem zd0_200 : decode (z_b 0) 200 = .ok (.aload_n 1, 1) := z_fwE z_dt0_0 0 rfl
theorem zd0_201 : decode (z_b 0) 201 = .ok (.aload_n 0, 1) := z_fwE z_dt0_0 1 rfl
theorem zd0_202 : decode (z_b 0) 202 = .ok (.iload_n 3, 1) := z_fwE z_dt0_0 2 rfl
theorem zd0_203 : decode (z_b 0) 203 = .ok (.iconst 1, 1) := z_fwE z_dt0_0 3 rfl
theorem zd0_204 : decode (z_b 0) 204 = .ok (.iadd, 1) := z_fwE z_dt0_0 4 rfl
theorem zd0_205 : decode (z_b 0) 205 = .ok (.iaload, 1) := z_fwE z_dt0_0 5 rfl
theorem zd0_206 : decode (z_b 0) 206 = .ok (.aload_n 0, 1) := z_fwE z_dt0_0 6 rfl
theorem zd0_207 : decode (z_b 0) 207 = .ok (.iload_n 3, 1) := z_fwE z_dt0_0 7 rfl
theorem zd0_208 : decode (z_b 0) 208 = .ok (.iconst 2, 1) := z_fwE z_dt0_0 8 rfl
theorem zd0_209 : decode (z_b 0) 209 = .ok (.iadd, 1) := z_fwE z_dt0_0 9 rfl
theorem zd0_210 : decode (z_b 0) 210 = .ok (.iaload, 1) := z_fwE z_dt0_0 10 rfl
theorem zd0_211 : decode (z_b 0) 211 = .ok (.invokevirtual 13, 3) := z_fwE z_dt0_0 11 rfl
theorem zd0_214 : decode (z_b 0) 214 = .ok (.pop, 1) := z_fwE z_dt0_0 12 rfl
theorem zd0_215 : decode (z_b 0) 215 = .ok (.aload_n 2, 1) := z_fwE z_dt0_0 13 rfl
theorem zd0_216 : decode (z_b 0) 216 = .ok (.aload_n 0, 1) := z_fwE z_dt0_0 14 rfl
theorem zd0_217 : decode (z_b 0) 217 = .ok (.iload_n 3, 1) := z_fwE z_dt0_0 15 rfl
theorem zd0_218 : decode (z_b 0) 218 = .ok (.iconst 1, 1) := z_fwE z_dt0_0 16 rfl
theorem zd0_219 : decode (z_b 0) 219 = .ok (.iadd, 1) := z_fwE z_dt0_0 17 rfl
theorem zd0_220 : decode (z_b 0) 220 = .ok (.iaload, 1) := z_fwE z_dt0_0 18 rfl
theorem zd0_221 : decode (z_b 0) 221 = .ok (.aload_n 0, 1) := z_fwE z_dt0_0 19 rfl
theorem zd0_222 : decode (z_b 0) 222 = .ok (.iload_n 3, 1) := z_fwE z_dt0_0 20 rfl
theorem zd0_223 : decode (z_b 0) 223 = .ok (.iconst 2, 1) := z_fwE z_dt0_0 21 rfl
theorem zd0_224 : decode (z_b 0) 224 = .ok (.iadd, 1) := z_fwE z_dt0_0 22 rfl
theorem zd0_225 : decode (z_b 0) 225 = .ok (.iaload, 1) := z_fwE z_dt0_0 23 rfl
theorem zd0_226 : decode (z_b 0) 226 = .ok (.invokevirtual 17, 3) := z_fwE z_dt0_0 24 rfl
theorem zd0_229 : decode (z_b 0) 229 = .ok (.pop, 1) := z_fwE z_dt0_0 25 rfl
theorem zd0_230 : decode (z_b 0) 230 = .ok (.goto 1544, 3) := z_fwE z_dt0_0 26 rfl
theorem zd0_233 : decode (z_b 0) 233 = .ok (.aload_n 1, 1) := z_fwE z_dt0_0 27 rfl
theorem zd0_234 : decode (z_b 0) 234 = .ok (.invokevirtual 18, 3) := z_fwE z_dt0_0 28 rfl
theorem zd0_237 : decode (z_b 0) 237 = .ok (.pop, 1) := z_fwE z_dt0_0 29 rfl
theorem zd0_238 : decode (z_b 0) 238 = .ok (.aload_n 2, 1) := z_fwE z_dt0_0 30 rfl
theorem zd0_239 : decode (z_b 0) 239 = .ok (.invokevirtual 22, 3) := z_fwE z_dt0_0 31 rfl
theorem zd0_242 : decode (z_b 0) 242 = .ok (.pop, 1) := z_fwE z_dt0_0 32 rfl
theorem zd0_243 : decode (z_b 0) 243 = .ok (.goto 1531, 3) := z_fwE z_dt0_0 33 rfl
theorem zd0_246 : decode (z_b 0) 246 = .ok (.aload_n 1, 1) := z_fwE z_dt0_0 34 rfl
theorem zd0_247 : decode (z_b 0) 247 = .ok (.aload_n 0, 1) := z_fwE z_dt0_0 35 rfl
theorem zd0_248 : decode (z_b 0) 248 = .ok (.iload_n 3, 1) := z_fwE z_dt0_0 36 rfl
theorem zd0_249 : decode (z_b 0) 249 = .ok (.iconst 1, 1) := z_fwE z_dt0_0 37 rfl
theorem zd0_250 : decode (z_b 0) 250 = .ok (.iadd, 1) := z_fwE z_dt0_0 38 rfl
theorem zd0_251 : decode (z_b 0) 251 = .ok (.iaload, 1) := z_fwE z_dt0_0 39 rfl
def z_dl0_1 : List (Nat × Instr × Nat) := [(252, .aload_n 0, 1), (253, .iload_n 3, 1), (254, .iconst 2, 1), (255, .iadd, 1), (256, .iaload, 1), (257, .invokevirtual 23, 3), (260, .pop, 1), (261, .aload_n 2, 1), (262, .aload_n 0, 1), (263, .iload_n 3, 1), (264, .iconst 1, 1), (265, .iadd, 1), (266, .iaload, 1), (267, .aload_n 0, 1), (268, .iload_n 3, 1), (269, .iconst 2, 1), (270, .iadd, 1), (271, .iaload, 1), (272, .invokevirtual 26, 3), (275, .pop, 1), (276, .goto 1498, 3), (279, .aload_n 1, 1), (280, .aload_n 0, 1), (281, .iload_n 3, 1), (282, .iconst 1, 1), (283, .iadd, 1), (284, .iaload, 1), (285, .aload_n 0, 1), (286, .iload_n 3, 1), (287, .iconst 2, 1), (288, .iadd, 1), (289, .iaload, 1), (290, .invokevirtual 27, 3), (293, .pop, 1), (294, .aload_n 2, 1), (295, .aload_n 0, 1), (296, .iload_n 3, 1), (297, .iconst 1, 1), (298, .iadd, 1), (299, .iaload, 1)]
theorem z_dt0_1 : z_fwj 0 252 z_dl0_1 = true := by decide +kernel
theorem zd0_252 : decode (z_b 0) 252 = .ok (.aload_n 0, 1) := z_fwE z_dt0_1 0 rfl
theorem zd0_253 : decode (z_b 0) 253 = .ok (.iload_n 3, 1) := z_fwE z_dt0_1 1 rfl
theorem zd0_254 : decode (z_b 0) 254 = .ok (.iconst 2, 1) := z_fwE z_dt0_1 2 rfl
theorem zd0_255 : decode (z_b 0) 255 = .ok (.iadd, 1) := z_fwE z_dt0_1 3 rfl
theorem zd0_256 : decode (z_b 0) 256 = .ok (.iaload, 1) := z_fwE z_dt0_1 4 rfl
theorem zd0_257 : decode (z_b 0) 257 = .ok (.invokevirtual 23, 3) := z_fwE z_dt0_1 5 rfl
theorem zd0_260 : decode (z_b 0) 260 = .ok (.pop, 1) := z_fwE z_dt0_1 6 rfl
theorem zd0_261 : decode (z_b 0) 261 = .ok (.aload_n 2, 1) := z_fwE z_dt0_1 7 rfl
theorem zd0_262 : decode (z_b 0) 262 = .ok (.aload_n 0, 1) := z_fwE z_dt0_1 8 rfl
theorem zd0_263 : decode (z_b 0) 263 = .ok (.iload_n 3, 1) := z_fwE z_dt0_1 9 rfl
theorem zd0_264 : decode (z_b 0) 264 = .ok (.iconst 1, 1) := z_fwE z_dt0_1 10 rfl
theorem zd0_265 : decode (z_b 0) 265 = .ok (.iadd, 1) := z_fwE z_dt0_1 11 rfl
theorem zd0_266 : decode (z_b 0) 266 = .ok (.iaload, 1) := z_fwE z_dt0_1 12 rfl
theorem zd0_267 : decode (z_b 0) 267 = .ok (.aload_n 0, 1) := z_fwE z_dt0_1 13 rfl
theorem zd0_268 : decode (z_b 0) 268 = .ok (.iload_n 3, 1) := z_fwE z_dt0_1 14 rfl
theorem zd0_269 : decode (z_b 0) 269 = .ok (.iconst 2, 1) := z_fwE z_dt0_1 15 rfl
theorem zd0_270 : decode (z_b 0) 270 = .ok (.iadd, 1) := z_fwE z_dt0_1 16 rfl
theorem zd0_271 : decode (z_b 0) 271 = .ok (.iaload, 1) := z_fwE z_dt0_1 17 rfl
theorem zd0_272 : decode (z_b 0) 272 = .ok (.invokevirtual 26, 3) := z_fwE z_dt0_1 18 rfl
theorem zd0_275 : decode (z_b 0) 275 = .ok (.pop, 1) := z_fwE z_dt0_1 19 rfl
theorem zd0_276 : decode (z_b 0) 276 = .ok (.goto 1498, 3) := z_fwE z_dt0_1 20 rfl
theorem zd0_279 : decode (z_b 0) 279 = .ok (.aload_n 1, 1) := z_fwE z_dt0_1 21 rfl
theorem zd0_280 : decode (z_b 0) 280 = .ok (.aload_n 0, 1) := z_fwE z_dt0_1 22 rfl
theorem zd0_281 : decode (z_b 0) 281 = .ok (.iload_n 3, 1) := z_fwE z_dt0_1 23 rfl
theorem zd0_282 : decode (z_b 0) 282 = .ok (.iconst 1, 1) := z_fwE z_dt0_1 24 rfl
theorem zd0_283 : decode (z_b 0) 283 = .ok (.iadd, 1) := z_fwE z_dt0_1 25 rfl
theorem zd0_284 : decode (z_b 0) 284 = .ok (.iaload, 1) := z_fwE z_dt0_1 26 rfl
theorem zd0_285 : decode (z_b 0) 285 = .ok (.aload_n 0, 1) := z_fwE z_dt0_1 27 rfl
theorem zd0_286 : decode (z_b 0) 286 = .ok (.iload_n 3, 1) := z_fwE z_dt0_1 28 rfl
theorem zd0_287 : decode (z_b 0) 287 = .ok (.iconst 2, 1) := z_fwE z_dt0_1 29 rfl
theorem zd0_288 : decode (z_b 0) 288 = .ok (.iadd, 1) := z_fwE z_dt0_1 30 rfl
theorem zd0_289 : decode (z_b 0) 289 = .ok (.iaload, 1) := z_fwE z_dt0_1 31 rfl
theorem zd0_290 : decode (z_b 0) 290 = .ok (.invokevirtual 27, 3) := z_fwE z_dt0_1 32 rfl
theorem zd0_293 : decode (z_b 0) 293 = .ok (.pop, 1) := z_fwE z_dt0_1 33 rfl
theorem zd0_294 : decode (z_b 0) 294 = .ok (.aload_n 2, 1) := z_fwE z_dt0_1 34 rfl
theorem zd0_295 : decode (z_b 0) 295 = .ok (.aload_n 0, 1) := z_fwE z_dt0_1 35 rfl
theorem zd0_296 : decode (z_b 0) 296 = .ok (.iload_n 3, 1) := z_fwE z_dt0_1 36 rfl
theorem zd0_297 : decode (z_b 0) 297 = .ok (.iconst 1, 1) := z_fwE z_dt0_1 37 rfl
theorem zd0_298 : decode (z_b 0) 298 = .ok (.iadd, 1) := z_fwE z_dt0_1 38 rfl
theorem zd0_299 : decode (z_b 0) 299 = .ok (.iaload, 1) := z_fwE z_dt0_1 39 rfl
def z_dl0_2 : List (Nat × Instr × Nat) := [(300, .aload_n 0, 1), (301, .iload_n 3, 1), (302, .iconst 2, 1), (303, .iadd, 1), (304, .iaload, 1), (305, .invokevirtual 30, 3), (308, .pop, 1), (309, .goto 1465, 3), (312, .aload_n 1, 1), (313, .aload_n 0, 1), (314, .iload_n 3, 1), (315, .iconst 1, 1), (316, .iadd, 1), (317, .iaload, 1), (318, .aload_n 0, 1), (319, .iload_n 3, 1), (320, .iconst 2, 1), (321, .iadd, 1), (322, .iaload, 1), (323, .invokevirtual 31, 3), (326, .pop, 1), (327, .aload_n 2, 1), (328, .aload_n 0, 1), (329, .iload_n 3, 1), (330, .iconst 1, 1), (331, .iadd, 1), (332, .iaload, 1), (333, .aload_n 0, 1), (334, .iload_n 3, 1), (335, .iconst 2, 1), (336, .iadd, 1), (337, .iaload, 1), (338, .invokevirtual 34, 3), (341, .pop, 1), (342, .goto 1432, 3), (345, .aload_n 1, 1), (346, .aload_n 0, 1), (347, .iload_n 3, 1), (348, .iconst 1, 1), (349, .iadd, 1)]
theorem z_dt0_2 : z_fwj 0 300 z_dl0_2 = true := by decide +kernel
theorem zd0_300 : decode (z_b 0) 300 = .ok (.aload_n 0, 1) := z_fwE z_dt0_2 0 rfl
theorem zd0_301 : decode (z_b 0) 301 = .ok (.iload_n 3, 1) := z_fwE z_dt0_2 1 rfl
theorem zd0_302 : decode (z_b 0) 302 = .ok (.iconst 2, 1) := z_fwE z_dt0_2 2 rfl
theorem zd0_303 : decode (z_b 0) 303 = .ok (.iadd, 1) := z_fwE z_dt0_2 3 rfl
theorem zd0_304 : decode (z_b 0) 304 = .ok (.iaload, 1) := z_fwE z_dt0_2 4 rfl
theorem zd0_305 : decode (z_b 0) 305 = .ok (.invokevirtual 30, 3) := z_fwE z_dt0_2 5 rfl
theorem zd0_308 : decode (z_b 0) 308 = .ok (.pop, 1) := z_fwE z_dt0_2 6 rfl
theorem zd0_309 : decode (z_b 0) 309 = .ok (.goto 1465, 3) := z_fwE z_dt0_2 7 rfl
theorem zd0_312 : decode (z_b 0) 312 = .ok (.aload_n 1, 1) := z_fwE z_dt0_2 8 rfl
theorem zd0_313 : decode (z_b 0) 313 = .ok (.aload_n 0, 1) := z_fwE z_dt0_2 9 rfl
theorem zd0_314 : decode (z_b 0) 314 = .ok (.iload_n 3, 1) := z_fwE z_dt0_2 10 rfl
theorem zd0_315 : decode (z_b 0) 315 = .ok (.iconst 1, 1) := z_fwE z_dt0_2 11 rfl
theorem zd0_316 : decode (z_b 0) 316 = .ok (.iadd, 1) := z_fwE z_dt0_2 12 rfl
theorem zd0_317 : decode (z_b 0) 317 = .ok (.iaload, 1) := z_fwE z_dt0_2 13 rfl
theorem zd0_318 : decode (z_b 0) 318 = .ok (.aload_n 0, 1) := z_fwE z_dt0_2 14 rfl
theorem zd0_319 : decode (z_b 0) 319 = .ok (.iload_n 3, 1) := z_fwE z_dt0_2 15 rfl
theorem zd0_320 : decode (z_b 0) 320 = .ok (.iconst 2, 1) := z_fwE z_dt0_2 16 rfl
theorem zd0_321 : decode (z_b 0) 321 = .ok (.iadd, 1) := z_fwE z_dt0_2 17 rfl
theorem zd0_322 : decode (z_b 0) 322 = .ok (.iaload, 1) := z_fwE z_dt0_2 18 rfl
theorem zd0_323 : decode (z_b 0) 323 = .ok (.invokevirtual 31, 3) := z_fwE z_dt0_2 19 rfl
theorem zd0_326 : decode (z_b 0) 326 = .ok (.pop, 1) := z_fwE z_dt0_2 20 rfl
theorem zd0_327 : decode (z_b 0) 327 = .ok (.aload_n 2, 1) := z_fwE z_dt0_2 21 rfl
theorem zd0_328 : decode (z_b 0) 328 = .ok (.aload_n 0, 1) := z_fwE z_dt0_2 22 rfl
theorem zd0_329 : decode (z_b 0) 329 = .ok (.iload_n 3, 1) := z_fwE z_dt0_2 23 rfl
theorem zd0_330 : decode (z_b 0) 330 = .ok (.iconst 1, 1) := z_fwE z_dt0_2 24 rfl
theorem zd0_331 : decode (z_b 0) 331 = .ok (.iadd, 1) := z_fwE z_dt0_2 25 rfl
theorem zd0_332 : decode (z_b 0) 332 = .ok (.iaload, 1) := z_fwE z_dt0_2 26 rfl
theorem zd0_333 : decode (z_b 0) 333 = .ok (.aload_n 0, 1) := z_fwE z_dt0_2 27 rfl
theorem zd0_334 : decode (z_b 0) 334 = .ok (.iload_n 3, 1) := z_fwE z_dt0_2 28 rfl
theorem zd0_335 : decode (z_b 0) 335 = .ok (.iconst 2, 1) := z_fwE z_dt0_2 29 rfl
theorem zd0_336 : decode (z_b 0) 336 = .ok (.iadd, 1) := z_fwE z_dt0_2 30 rfl
theorem zd0_337 : decode (z_b 0) 337 = .ok (.iaload, 1) := z_fwE z_dt0_2 31 rfl
theorem zd0_338 : decode (z_b 0) 338 = .ok (.invokevirtual 34, 3) := z_fwE z_dt0_2 32 rfl
theorem zd0_341 : decode (z_b 0) 341 = .ok (.pop, 1) := z_fwE z_dt0_2 33 rfl
theorem zd0_342 : decode (z_b 0) 342 = .ok (.goto 1432, 3) := z_fwE z_dt0_2 34 rfl
theorem zd0_345 : decode (z_b 0) 345 = .ok (.aload_n 1, 1) := z_fwE z_dt0_2 35 rfl
theorem zd0_346 : decode (z_b 0) 346 = .ok (.aload_n 0, 1) := z_fwE z_dt0_2 36 rfl
theorem zd0_347 : decode (z_b 0) 347 = .ok (.iload_n 3, 1) := z_fwE z_dt0_2 37 rfl
theorem zd0_348 : decode (z_b 0) 348 = .ok (.iconst 1, 1) := z_fwE z_dt0_2 38 rfl
theorem zd0_349 : decode (z_b 0) 349 = .ok (.iadd, 1) := z_fwE z_dt0_2 39 rfl
def z_dl0_3 : List (Nat × Instr × Nat) := [(350, .iaload, 1), (351, .aload_n 0, 1), (352, .iload_n 3, 1), (353, .iconst 2, 1), (354, .iadd, 1), (355, .iaload, 1), (356, .aload_n 0, 1), (357, .iload_n 3, 1), (358, .iconst 3, 1), (359, .iadd, 1), (360, .iaload, 1), (361, .invokevirtual 35, 3), (364, .pop, 1), (365, .aload_n 2, 1), (366, .aload_n 0, 1), (367, .iload_n 3, 1), (368, .iconst 1, 1), (369, .iadd, 1), (370, .iaload, 1), (371, .aload_n 0, 1), (372, .iload_n 3, 1), (373, .iconst 2, 1), (374, .iadd, 1), (375, .iaload, 1), (376, .aload_n 0, 1), (377, .iload_n 3, 1), (378, .iconst 3, 1), (379, .iadd, 1), (380, .iaload, 1), (381, .invokevirtual 39, 3), (384, .pop, 1), (385, .goto 1389, 3), (388, .aload_n 1, 1), (389, .aload_n 0, 1), (390, .iload_n 3, 1), (391, .iconst 1, 1), (392, .iadd, 1), (393, .iaload, 1), (394, .aload_n 0, 1), (395, .iload_n 3, 1)]
theorem z_dt0_3 : z_fwj 0 350 z_dl0_3 = true := by decide +kernel
theorem zd0_350 : decode (z_b 0) 350 = .ok (.iaload, 1) := z_fwE z_dt0_3 0 rfl
theorem zd0_351 : decode (z_b 0) 351 = .ok (.aload_n 0, 1) := z_fwE z_dt0_3 1 rfl
theorem zd0_352 : decode (z_b 0) 352 = .ok (.iload_n 3, 1) := z_fwE z_dt0_3 2 rfl
theorem zd0_353 : decode (z_b 0) 353 = .ok (.iconst 2, 1) := z_fwE z_dt0_3 3 rfl
theorem zd0_354 : decode (z_b 0) 354 = .ok (.iadd, 1) := z_fwE z_dt0_3 4 rfl
theorem zd0_355 : decode (z_b 0) 355 = .ok (.iaload, 1) := z_fwE z_dt0_3 5 rfl
theorem zd0_356 : decode (z_b 0) 356 = .ok (.aload_n 0, 1) := z_fwE z_dt0_3 6 rfl
theorem zd0_357 : decode (z_b 0) 357 = .ok (.iload_n 3, 1) := z_fwE z_dt0_3 7 rfl
theorem zd0_358 : decode (z_b 0) 358 = .ok (.iconst 3, 1) := z_fwE z_dt0_3 8 rfl
theorem zd0_359 : decode (z_b 0) 359 = .ok (.iadd, 1) := z_fwE z_dt0_3 9 rfl
theorem zd0_360 : decode (z_b 0) 360 = .ok (.iaload, 1) := z_fwE z_dt0_3 10 rfl
theorem zd0_361 : decode (z_b 0) 361 = .ok (.invokevirtual 35, 3) := z_fwE z_dt0_3 11 rfl
theorem zd0_364 : decode (z_b 0) 364 = .ok (.pop, 1) := z_fwE z_dt0_3 12 rfl
theorem zd0_365 : decode (z_b 0) 365 = .ok (.aload_n 2, 1) := z_fwE z_dt0_3 13 rfl
theorem zd0_366 : decode (z_b 0) 366 = .ok (.aload_n 0, 1) := z_fwE z_dt0_3 14 rfl
theorem zd0_367 : decode (z_b 0) 367 = .ok (.iload_n 3, 1) := z_fwE z_dt0_3 15 rfl
theorem zd0_368 : decode (z_b 0) 368 = .ok (.iconst 1, 1) := z_fwE z_dt0_3 16 rfl
theorem zd0_369 : decode (z_b 0) 369 = .ok (.iadd, 1) := z_fwE z_dt0_3 17 rfl
theorem zd0_370 : decode (z_b 0) 370 = .ok (.iaload, 1) := z_fwE z_dt0_3 18 rfl
theorem zd0_371 : decode (z_b 0) 371 = .ok (.aload_n 0, 1) := z_fwE z_dt0_3 19 rfl
theorem zd0_372 : decode (z_b 0) 372 = .ok (.iload_n 3, 1) := z_fwE z_dt0_3 20 rfl
theorem zd0_373 : decode (z_b 0) 373 = .ok (.iconst 2, 1) := z_fwE z_dt0_3 21 rfl
theorem zd0_374 : decode (z_b 0) 374 = .ok (.iadd, 1) := z_fwE z_dt0_3 22 rfl
theorem zd0_375 : decode (z_b 0) 375 = .ok (.iaload, 1) := z_fwE z_dt0_3 23 rfl
theorem zd0_376 : decode (z_b 0) 376 = .ok (.aload_n 0, 1) := z_fwE z_dt0_3 24 rfl
theorem zd0_377 : decode (z_b 0) 377 = .ok (.iload_n 3, 1) := z_fwE z_dt0_3 25 rfl
theorem zd0_378 : decode (z_b 0) 378 = .ok (.iconst 3, 1) := z_fwE z_dt0_3 26 rfl
theorem zd0_379 : decode (z_b 0) 379 = .ok (.iadd, 1) := z_fwE z_dt0_3 27 rfl
theorem zd0_380 : decode (z_b 0) 380 = .ok (.iaload, 1) := z_fwE z_dt0_3 28 rfl
theorem zd0_381 : decode (z_b 0) 381 = .ok (.invokevirtual 39, 3) := z_fwE z_dt0_3 29 rfl
theorem zd0_384 : decode (z_b 0) 384 = .ok (.pop, 1) := z_fwE z_dt0_3 30 rfl
theorem zd0_385 : decode (z_b 0) 385 = .ok (.goto 1389, 3) := z_fwE z_dt0_3 31 rfl
theorem zd0_388 : decode (z_b 0) 388 = .ok (.aload_n 1, 1) := z_fwE z_dt0_3 32 rfl
theorem zd0_389 : decode (z_b 0) 389 = .ok (.aload_n 0, 1) := z_fwE z_dt0_3 33 rfl
theorem zd0_390 : decode (z_b 0) 390 = .ok (.iload_n 3, 1) := z_fwE z_dt0_3 34 rfl
theorem zd0_391 : decode (z_b 0) 391 = .ok (.iconst 1, 1) := z_fwE z_dt0_3 35 rfl
theorem zd0_392 : decode (z_b 0) 392 = .ok (.iadd, 1) := z_fwE z_dt0_3 36 rfl
theorem zd0_393 : decode (z_b 0) 393 = .ok (.iaload, 1) := z_fwE z_dt0_3 37 rfl
theorem zd0_394 : decode (z_b 0) 394 = .ok (.aload_n 0, 1) := z_fwE z_dt0_3 38 rfl
theorem zd0_395 : decode (z_b 0) 395 = .ok (.iload_n 3, 1) := z_fwE z_dt0_3 39 rfl
def z_dl0_4 : List (Nat × Instr × Nat) := [(396, .iconst 2, 1), (397, .iadd, 1), (398, .iaload, 1), (399, .aload_n 0, 1), (400, .iload_n 3, 1), (401, .iconst 3, 1), (402, .iadd, 1), (403, .iaload, 1), (404, .aload_n 0, 1), (405, .iload_n 3, 1), (406, .iconst 4, 1), (407, .iadd, 1), (408, .iaload, 1), (409, .invokevirtual 40, 3), (412, .pop, 1), (413, .aload_n 2, 1), (414, .aload_n 0, 1), (415, .iload_n 3, 1), (416, .iconst 1, 1), (417, .iadd, 1), (418, .iaload, 1), (419, .aload_n 0, 1), (420, .iload_n 3, 1), (421, .iconst 2, 1), (422, .iadd, 1), (423, .iaload, 1), (424, .aload_n 0, 1), (425, .iload_n 3, 1), (426, .iconst 3, 1), (427, .iadd, 1), (428, .iaload, 1), (429, .aload_n 0, 1), (430, .iload_n 3, 1), (431, .iconst 4, 1), (432, .iadd, 1), (433, .iaload, 1), (434, .invokevirtual 44, 3), (437, .pop, 1), (438, .goto 1336, 3), (441, .aload_n 1, 1)]
theorem z_dt0_4 : z_fwj 0 396 z_dl0_4 = true := by decide +kernel
theorem zd0_396 : decode (z_b 0) 396 = .ok (.iconst 2, 1) := z_fwE z_dt0_4 0 rfl
theorem zd0_397 : decode (z_b 0) 397 = .ok (.iadd, 1) := z_fwE z_dt0_4 1 rfl
theorem zd0_398 : decode (z_b 0) 398 = .ok (.iaload, 1) := z_fwE z_dt0_4 2 rfl
theorem zd0_399 : decode (z_b 0) 399 = .ok (.aload_n 0, 1) := z_fwE z_dt0_4 3 rfl
theorem zd0_400 : decode (z_b 0) 400 = .ok (.iload_n 3, 1) := z_fwE z_dt0_4 4 rfl
theorem zd0_401 : decode (z_b 0) 401 = .ok (.iconst 3, 1) := z_fwE z_dt0_4 5 rfl
theorem zd0_402 : decode (z_b 0) 402 = .ok (.iadd, 1) := z_fwE z_dt0_4 6 rfl
theorem zd0_403 : decode (z_b 0) 403 = .ok (.iaload, 1) := z_fwE z_dt0_4 7 rfl
theorem zd0_404 : decode (z_b 0) 404 = .ok (.aload_n 0, 1) := z_fwE z_dt0_4 8 rfl
theorem zd0_405 : decode (z_b 0) 405 = .ok (.iload_n 3, 1) := z_fwE z_dt0_4 9 rfl
theorem zd0_406 : decode (z_b 0) 406 = .ok (.iconst 4, 1) := z_fwE z_dt0_4 10 rfl
theorem zd0_407 : decode (z_b 0) 407 = .ok (.iadd, 1) := z_fwE z_dt0_4 11 rfl
theorem zd0_408 : decode (z_b 0) 408 = .ok (.iaload, 1) := z_fwE z_dt0_4 12 rfl
theorem zd0_409 : decode (z_b 0) 409 = .ok (.invokevirtual 40, 3) := z_fwE z_dt0_4 13 rfl
theorem zd0_412 : decode (z_b 0) 412 = .ok (.pop, 1) := z_fwE z_dt0_4 14 rfl
theorem zd0_413 : decode (z_b 0) 413 = .ok (.aload_n 2, 1) := z_fwE z_dt0_4 15 rfl
theorem zd0_414 : decode (z_b 0) 414 = .ok (.aload_n 0, 1) := z_fwE z_dt0_4 16 rfl
theorem zd0_415 : decode (z_b 0) 415 = .ok (.iload_n 3, 1) := z_fwE z_dt0_4 17 rfl
theorem zd0_416 : decode (z_b 0) 416 = .ok (.iconst 1, 1) := z_fwE z_dt0_4 18 rfl
theorem zd0_417 : decode (z_b 0) 417 = .ok (.iadd, 1) := z_fwE z_dt0_4 19 rfl
theorem zd0_418 : decode (z_b 0) 418 = .ok (.iaload, 1) := z_fwE z_dt0_4 20 rfl
theorem zd0_419 : decode (z_b 0) 419 = .ok (.aload_n 0, 1) := z_fwE z_dt0_4 21 rfl
theorem zd0_420 : decode (z_b 0) 420 = .ok (.iload_n 3, 1) := z_fwE z_dt0_4 22 rfl
theorem zd0_421 : decode (z_b 0) 421 = .ok (.iconst 2, 1) := z_fwE z_dt0_4 23 rfl
theorem zd0_422 : decode (z_b 0) 422 = .ok (.iadd, 1) := z_fwE z_dt0_4 24 rfl
theorem zd0_423 : decode (z_b 0) 423 = .ok (.iaload, 1) := z_fwE z_dt0_4 25 rfl
theorem zd0_424 : decode (z_b 0) 424 = .ok (.aload_n 0, 1) := z_fwE z_dt0_4 26 rfl
theorem zd0_425 : decode (z_b 0) 425 = .ok (.iload_n 3, 1) := z_fwE z_dt0_4 27 rfl
theorem zd0_426 : decode (z_b 0) 426 = .ok (.iconst 3, 1) := z_fwE z_dt0_4 28 rfl
theorem zd0_427 : decode (z_b 0) 427 = .ok (.iadd, 1) := z_fwE z_dt0_4 29 rfl
theorem zd0_428 : decode (z_b 0) 428 = .ok (.iaload, 1) := z_fwE z_dt0_4 30 rfl
theorem zd0_429 : decode (z_b 0) 429 = .ok (.aload_n 0, 1) := z_fwE z_dt0_4 31 rfl
theorem zd0_430 : decode (z_b 0) 430 = .ok (.iload_n 3, 1) := z_fwE z_dt0_4 32 rfl
theorem zd0_431 : decode (z_b 0) 431 = .ok (.iconst 4, 1) := z_fwE z_dt0_4 33 rfl
theorem zd0_432 : decode (z_b 0) 432 = .ok (.iadd, 1) := z_fwE z_dt0_4 34 rfl
theorem zd0_433 : decode (z_b 0) 433 = .ok (.iaload, 1) := z_fwE z_dt0_4 35 rfl
theorem zd0_434 : decode (z_b 0) 434 = .ok (.invokevirtual 44, 3) := z_fwE z_dt0_4 36 rfl
theorem zd0_437 : decode (z_b 0) 437 = .ok (.pop, 1) := z_fwE z_dt0_4 37 rfl
theorem zd0_438 : decode (z_b 0) 438 = .ok (.goto 1336, 3) := z_fwE z_dt0_4 38 rfl
theorem zd0_441 : decode (z_b 0) 441 = .ok (.aload_n 1, 1) := z_fwE z_dt0_4 39 rfl
def z_dl0_5 : List (Nat × Instr × Nat) := [(442, .aload_n 0, 1), (443, .iload_n 3, 1), (444, .iconst 1, 1), (445, .iadd, 1), (446, .iaload, 1), (447, .aload_n 0, 1), (448, .iload_n 3, 1), (449, .iconst 2, 1), (450, .iadd, 1), (451, .iaload, 1), (452, .aload_n 0, 1), (453, .iload_n 3, 1), (454, .iconst 3, 1), (455, .iadd, 1), (456, .iaload, 1), (457, .invokevirtual 45, 3), (460, .pop, 1), (461, .aload_n 2, 1), (462, .aload_n 0, 1), (463, .iload_n 3, 1), (464, .iconst 1, 1), (465, .iadd, 1), (466, .iaload, 1), (467, .aload_n 0, 1), (468, .iload_n 3, 1), (469, .iconst 2, 1), (470, .iadd, 1), (471, .iaload, 1), (472, .aload_n 0, 1), (473, .iload_n 3, 1), (474, .iconst 3, 1), (475, .iadd, 1), (476, .iaload, 1), (477, .invokevirtual 48, 3), (480, .pop, 1), (481, .goto 1293, 3), (484, .aload_n 1, 1), (485, .aload_n 0, 1), (486, .iload_n 3, 1), (487, .iconst 1, 1)]
theorem z_dt0_5 : z_fwj 0 442 z_dl0_5 = true := by decide +kernel
theorem zd0_442 : decode (z_b 0) 442 = .ok (.aload_n 0, 1) := z_fwE z_dt0_5 0 rfl
theorem zd0_443 : decode (z_b 0) 443 = .ok (.iload_n 3, 1) := z_fwE z_dt0_5 1 rfl
theorem zd0_444 : decode (z_b 0) 444 = .ok (.iconst 1, 1) := z_fwE z_dt0_5 2 rfl
theorem zd0_445 : decode (z_b 0) 445 = .ok (.iadd, 1) := z_fwE z_dt0_5 3 rfl
theorem zd0_446 : decode (z_b 0) 446 = .ok (.iaload, 1) := z_fwE z_dt0_5 4 rfl
theorem zd0_447 : decode (z_b 0) 447 = .ok (.aload_n 0, 1) := z_fwE z_dt0_5 5 rfl
theorem zd0_448 : decode (z_b 0) 448 = .ok (.iload_n 3, 1) := z_fwE z_dt0_5 6 rfl
theorem zd0_449 : decode (z_b 0) 449 = .ok (.iconst 2, 1) := z_fwE z_dt0_5 7 rfl
theorem zd0_450 : decode (z_b 0) 450 = .ok (.iadd, 1) := z_fwE z_dt0_5 8 rfl
theorem zd0_451 : decode (z_b 0) 451 = .ok (.iaload, 1) := z_fwE z_dt0_5 9 rfl
theorem zd0_452 : decode (z_b 0) 452 = .ok (.aload_n 0, 1) := z_fwE z_dt0_5 10 rfl
theorem zd0_453 : decode (z_b 0) 453 = .ok (.iload_n 3, 1) := z_fwE z_dt0_5 11 rfl
theorem zd0_454 : decode (z_b 0) 454 = .ok (.iconst 3, 1) := z_fwE z_dt0_5 12 rfl
theorem zd0_455 : decode (z_b 0) 455 = .ok (.iadd, 1) := z_fwE z_dt0_5 13 rfl
theorem zd0_456 : decode (z_b 0) 456 = .ok (.iaload, 1) := z_fwE z_dt0_5 14 rfl
theorem zd0_457 : decode (z_b 0) 457 = .ok (.invokevirtual 45, 3) := z_fwE z_dt0_5 15 rfl
theorem zd0_460 : decode (z_b 0) 460 = .ok (.pop, 1) := z_fwE z_dt0_5 16 rfl
theorem zd0_461 : decode (z_b 0) 461 = .ok (.aload_n 2, 1) := z_fwE z_dt0_5 17 rfl
theorem zd0_462 : decode (z_b 0) 462 = .ok (.aload_n 0, 1) := z_fwE z_dt0_5 18 rfl
theorem zd0_463 : decode (z_b 0) 463 = .ok (.iload_n 3, 1) := z_fwE z_dt0_5 19 rfl
theorem zd0_464 : decode (z_b 0) 464 = .ok (.iconst 1, 1) := z_fwE z_dt0_5 20 rfl
theorem zd0_465 : decode (z_b 0) 465 = .ok (.iadd, 1) := z_fwE z_dt0_5 21 rfl
theorem zd0_466 : decode (z_b 0) 466 = .ok (.iaload, 1) := z_fwE z_dt0_5 22 rfl
theorem zd0_467 : decode (z_b 0) 467 = .ok (.aload_n 0, 1) := z_fwE z_dt0_5 23 rfl
theorem zd0_468 : decode (z_b 0) 468 = .ok (.iload_n 3, 1) := z_fwE z_dt0_5 24 rfl
theorem zd0_469 : decode (z_b 0) 469 = .ok (.iconst 2, 1) := z_fwE z_dt0_5 25 rfl
theorem zd0_470 : decode (z_b 0) 470 = .ok (.iadd, 1) := z_fwE z_dt0_5 26 rfl
theorem zd0_471 : decode (z_b 0) 471 = .ok (.iaload, 1) := z_fwE z_dt0_5 27 rfl
theorem zd0_472 : decode (z_b 0) 472 = .ok (.aload_n 0, 1) := z_fwE z_dt0_5 28 rfl
theorem zd0_473 : decode (z_b 0) 473 = .ok (.iload_n 3, 1) := z_fwE z_dt0_5 29 rfl
theorem zd0_474 : decode (z_b 0) 474 = .ok (.iconst 3, 1) := z_fwE z_dt0_5 30 rfl
theorem zd0_475 : decode (z_b 0) 475 = .ok (.iadd, 1) := z_fwE z_dt0_5 31 rfl
theorem zd0_476 : decode (z_b 0) 476 = .ok (.iaload, 1) := z_fwE z_dt0_5 32 rfl
theorem zd0_477 : decode (z_b 0) 477 = .ok (.invokevirtual 48, 3) := z_fwE z_dt0_5 33 rfl
theorem zd0_480 : decode (z_b 0) 480 = .ok (.pop, 1) := z_fwE z_dt0_5 34 rfl
theorem zd0_481 : decode (z_b 0) 481 = .ok (.goto 1293, 3) := z_fwE z_dt0_5 35 rfl
theorem zd0_484 : decode (z_b 0) 484 = .ok (.aload_n 1, 1) := z_fwE z_dt0_5 36 rfl
theorem zd0_485 : decode (z_b 0) 485 = .ok (.aload_n 0, 1) := z_fwE z_dt0_5 37 rfl
theorem zd0_486 : decode (z_b 0) 486 = .ok (.iload_n 3, 1) := z_fwE z_dt0_5 38 rfl
theorem zd0_487 : decode (z_b 0) 487 = .ok (.iconst 1, 1) := z_fwE z_dt0_5 39 rfl
def z_dl0_6 : List (Nat × Instr × Nat) := [(488, .iadd, 1), (489, .iaload, 1), (490, .aload_n 0, 1), (491, .iload_n 3, 1), (492, .iconst 2, 1), (493, .iadd, 1), (494, .iaload, 1), (495, .aload_n 0, 1), (496, .iload_n 3, 1), (497, .iconst 3, 1), (498, .iadd, 1), (499, .iaload, 1), (500, .aload_n 0, 1), (501, .iload_n 3, 1), (502, .iconst 4, 1), (503, .iadd, 1), (504, .iaload, 1), (505, .invokevirtual 49, 3), (508, .pop, 1), (509, .aload_n 2, 1), (510, .aload_n 0, 1), (511, .iload_n 3, 1), (512, .iconst 1, 1), (513, .iadd, 1), (514, .iaload, 1), (515, .aload_n 0, 1), (516, .iload_n 3, 1), (517, .iconst 2, 1), (518, .iadd, 1), (519, .iaload, 1), (520, .aload_n 0, 1), (521, .iload_n 3, 1), (522, .iconst 3, 1), (523, .iadd, 1), (524, .iaload, 1), (525, .aload_n 0, 1), (526, .iload_n 3, 1), (527, .iconst 4, 1), (528, .iadd, 1), (529, .iaload, 1)]
theorem z_dt0_6 : z_fwj 0 488 z_dl0_6 = true := by decide +kernel
theorem zd0_488 : decode (z_b 0) 488 = .ok (.iadd, 1) := z_fwE z_dt0_6 0 rfl
theorem zd0_489 : decode (z_b 0) 489 = .ok (.iaload, 1) := z_fwE z_dt0_6 1 rfl
theorem zd0_490 : decode (z_b 0) 490 = .ok (.aload_n 0, 1) := z_fwE z_dt0_6 2 rfl
theorem zd0_491 : decode (z_b 0) 491 = .ok (.iload_n 3, 1) := z_fwE z_dt0_6 3 rfl
theorem zd0_492 : decode (z_b 0) 492 = .ok (.iconst 2, 1) := z_fwE z_dt0_6 4 rfl
theorem zd0_493 : decode (z_b 0) 493 = .ok (.iadd, 1) := z_fwE z_dt0_6 5 rfl
theorem zd0_494 : decode (z_b 0) 494 = .ok (.iaload, 1) := z_fwE z_dt0_6 6 rfl
theorem zd0_495 : decode (z_b 0) 495 = .ok (.aload_n 0, 1) := z_fwE z_dt0_6 7 rfl
theorem zd0_496 : decode (z_b 0) 496 = .ok (.iload_n 3, 1) := z_fwE z_dt0_6 8 rfl
theorem zd0_497 : decode (z_b 0) 497 = .ok (.iconst 3, 1) := z_fwE z_dt0_6 9 rfl
theorem zd0_498 : decode (z_b 0) 498 = .ok (.iadd, 1) := z_fwE z_dt0_6 10 rfl
theorem zd0_499 : decode (z_b 0) 499 = .ok (.iaload, 1) := z_fwE z_dt0_6 11 rfl
theorem zd0_500 : decode (z_b 0) 500 = .ok (.aload_n 0, 1) := z_fwE z_dt0_6 12 rfl
theorem zd0_501 : decode (z_b 0) 501 = .ok (.iload_n 3, 1) := z_fwE z_dt0_6 13 rfl
theorem zd0_502 : decode (z_b 0) 502 = .ok (.iconst 4, 1) := z_fwE z_dt0_6 14 rfl
theorem zd0_503 : decode (z_b 0) 503 = .ok (.iadd, 1) := z_fwE z_dt0_6 15 rfl
theorem zd0_504 : decode (z_b 0) 504 = .ok (.iaload, 1) := z_fwE z_dt0_6 16 rfl
theorem zd0_505 : decode (z_b 0) 505 = .ok (.invokevirtual 49, 3) := z_fwE z_dt0_6 17 rfl
theorem zd0_508 : decode (z_b 0) 508 = .ok (.pop, 1) := z_fwE z_dt0_6 18 rfl
theorem zd0_509 : decode (z_b 0) 509 = .ok (.aload_n 2, 1) := z_fwE z_dt0_6 19 rfl
theorem zd0_510 : decode (z_b 0) 510 = .ok (.aload_n 0, 1) := z_fwE z_dt0_6 20 rfl
theorem zd0_511 : decode (z_b 0) 511 = .ok (.iload_n 3, 1) := z_fwE z_dt0_6 21 rfl
theorem zd0_512 : decode (z_b 0) 512 = .ok (.iconst 1, 1) := z_fwE z_dt0_6 22 rfl
theorem zd0_513 : decode (z_b 0) 513 = .ok (.iadd, 1) := z_fwE z_dt0_6 23 rfl
theorem zd0_514 : decode (z_b 0) 514 = .ok (.iaload, 1) := z_fwE z_dt0_6 24 rfl
theorem zd0_515 : decode (z_b 0) 515 = .ok (.aload_n 0, 1) := z_fwE z_dt0_6 25 rfl
theorem zd0_516 : decode (z_b 0) 516 = .ok (.iload_n 3, 1) := z_fwE z_dt0_6 26 rfl
theorem zd0_517 : decode (z_b 0) 517 = .ok (.iconst 2, 1) := z_fwE z_dt0_6 27 rfl
theorem zd0_518 : decode (z_b 0) 518 = .ok (.iadd, 1) := z_fwE z_dt0_6 28 rfl
theorem zd0_519 : decode (z_b 0) 519 = .ok (.iaload, 1) := z_fwE z_dt0_6 29 rfl
theorem zd0_520 : decode (z_b 0) 520 = .ok (.aload_n 0, 1) := z_fwE z_dt0_6 30 rfl
theorem zd0_521 : decode (z_b 0) 521 = .ok (.iload_n 3, 1) := z_fwE z_dt0_6 31 rfl
theorem zd0_522 : decode (z_b 0) 522 = .ok (.iconst 3, 1) := z_fwE z_dt0_6 32 rfl
theorem zd0_523 : decode (z_b 0) 523 = .ok (.iadd, 1) := z_fwE z_dt0_6 33 rfl
theorem zd0_524 : decode (z_b 0) 524 = .ok (.iaload, 1) := z_fwE z_dt0_6 34 rfl
theorem zd0_525 : decode (z_b 0) 525 = .ok (.aload_n 0, 1) := z_fwE z_dt0_6 35 rfl
theorem zd0_526 : decode (z_b 0) 526 = .ok (.iload_n 3, 1) := z_fwE z_dt0_6 36 rfl
theorem zd0_527 : decode (z_b 0) 527 = .ok (.iconst 4, 1) := z_fwE z_dt0_6 37 rfl
theorem zd0_528 : decode (z_b 0) 528 = .ok (.iadd, 1) := z_fwE z_dt0_6 38 rfl
theorem zd0_529 : decode (z_b 0) 529 = .ok (.iaload, 1) := z_fwE z_dt0_6 39 rfl
def z_dl0_7 : List (Nat × Instr × Nat) := [(530, .invokevirtual 52, 3), (533, .pop, 1), (534, .goto 1240, 3), (537, .aload_n 1, 1), (538, .aload_n 0, 1), (539, .iload_n 3, 1), (540, .iconst 1, 1), (541, .iadd, 1), (542, .iaload, 1), (543, .aload_n 0, 1), (544, .iload_n 3, 1), (545, .iconst 2, 1), (546, .iadd, 1), (547, .iaload, 1), (548, .aload_n 0, 1), (549, .iload_n 3, 1), (550, .iconst 3, 1), (551, .iadd, 1), (552, .iaload, 1), (553, .aload_n 0, 1), (554, .iload_n 3, 1), (555, .iconst 4, 1), (556, .iadd, 1), (557, .iaload, 1), (558, .invokevirtual 53, 3), (561, .pop, 1), (562, .aload_n 2, 1), (563, .aload_n 0, 1), (564, .iload_n 3, 1), (565, .iconst 1, 1), (566, .iadd, 1), (567, .iaload, 1), (568, .aload_n 0, 1), (569, .iload_n 3, 1), (570, .iconst 2, 1), (571, .iadd, 1), (572, .iaload, 1), (573, .aload_n 0, 1), (574, .iload_n 3, 1), (575, .iconst 3, 1)]
theorem z_dt0_7 : z_fwj 0 530 z_dl0_7 = true := by decide +kernel
theorem zd0_530 : decode (z_b 0) 530 = .ok (.invokevirtual 52, 3) := z_fwE z_dt0_7 0 rfl
theorem zd0_533 : decode (z_b 0) 533 = .ok (.pop, 1) := z_fwE z_dt0_7 1 rfl
theorem zd0_534 : decode (z_b 0) 534 = .ok (.goto 1240, 3) := z_fwE z_dt0_7 2 rfl
theorem zd0_537 : decode (z_b 0) 537 = .ok (.aload_n 1, 1) := z_fwE z_dt0_7 3 rfl
theorem zd0_538 : decode (z_b 0) 538 = .ok (.aload_n 0, 1) := z_fwE z_dt0_7 4 rfl
theorem zd0_539 : decode (z_b 0) 539 = .ok (.iload_n 3, 1) := z_fwE z_dt0_7 5 rfl
theorem zd0_540 : decode (z_b 0) 540 = .ok (.iconst 1, 1) := z_fwE z_dt0_7 6 rfl
theorem zd0_541 : decode (z_b 0) 541 = .ok (.iadd, 1) := z_fwE z_dt0_7 7 rfl
theorem zd0_542 : decode (z_b 0) 542 = .ok (.iaload, 1) := z_fwE z_dt0_7 8 rfl
theorem zd0_543 : decode (z_b 0) 543 = .ok (.aload_n 0, 1) := z_fwE z_dt0_7 9 rfl
theorem zd0_544 : decode (z_b 0) 544 = .ok (.iload_n 3, 1) := z_fwE z_dt0_7 10 rfl
theorem zd0_545 : decode (z_b 0) 545 = .ok (.iconst 2, 1) := z_fwE z_dt0_7 11 rfl
theorem zd0_546 : decode (z_b 0) 546 = .ok (.iadd, 1) := z_fwE z_dt0_7 12 rfl
theorem zd0_547 : decode (z_b 0) 547 = .ok (.iaload, 1) := z_fwE z_dt0_7 13 rfl
theorem zd0_548 : decode (z_b 0) 548 = .ok (.aload_n 0, 1) := z_fwE z_dt0_7 14 rfl
theorem zd0_549 : decode (z_b 0) 549 = .ok (.iload_n 3, 1) := z_fwE z_dt0_7 15 rfl
theorem zd0_550 : decode (z_b 0) 550 = .ok (.iconst 3, 1) := z_fwE z_dt0_7 16 rfl
theorem zd0_551 : decode (z_b 0) 551 = .ok (.iadd, 1) := z_fwE z_dt0_7 17 rfl
theorem zd0_552 : decode (z_b 0) 552 = .ok (.iaload, 1) := z_fwE z_dt0_7 18 rfl
theorem zd0_553 : decode (z_b 0) 553 = .ok (.aload_n 0, 1) := z_fwE z_dt0_7 19 rfl
theorem zd0_554 : decode (z_b 0) 554 = .ok (.iload_n 3, 1) := z_fwE z_dt0_7 20 rfl
theorem zd0_555 : decode (z_b 0) 555 = .ok (.iconst 4, 1) := z_fwE z_dt0_7 21 rfl
theorem zd0_556 : decode (z_b 0) 556 = .ok (.iadd, 1) := z_fwE z_dt0_7 22 rfl
theorem zd0_557 : decode (z_b 0) 557 = .ok (.iaload, 1) := z_fwE z_dt0_7 23 rfl
theorem zd0_558 : decode (z_b 0) 558 = .ok (.invokevirtual 53, 3) := z_fwE z_dt0_7 24 rfl
theorem zd0_561 : decode (z_b 0) 561 = .ok (.pop, 1) := z_fwE z_dt0_7 25 rfl
theorem zd0_562 : decode (z_b 0) 562 = .ok (.aload_n 2, 1) := z_fwE z_dt0_7 26 rfl
theorem zd0_563 : decode (z_b 0) 563 = .ok (.aload_n 0, 1) := z_fwE z_dt0_7 27 rfl
theorem zd0_564 : decode (z_b 0) 564 = .ok (.iload_n 3, 1) := z_fwE z_dt0_7 28 rfl
theorem zd0_565 : decode (z_b 0) 565 = .ok (.iconst 1, 1) := z_fwE z_dt0_7 29 rfl
theorem zd0_566 : decode (z_b 0) 566 = .ok (.iadd, 1) := z_fwE z_dt0_7 30 rfl
theorem zd0_567 : decode (z_b 0) 567 = .ok (.iaload, 1) := z_fwE z_dt0_7 31 rfl
theorem zd0_568 : decode (z_b 0) 568 = .ok (.aload_n 0, 1) := z_fwE z_dt0_7 32 rfl
theorem zd0_569 : decode (z_b 0) 569 = .ok (.iload_n 3, 1) := z_fwE z_dt0_7 33 rfl
theorem zd0_570 : decode (z_b 0) 570 = .ok (.iconst 2, 1) := z_fwE z_dt0_7 34 rfl
theorem zd0_571 : decode (z_b 0) 571 = .ok (.iadd, 1) := z_fwE z_dt0_7 35 rfl
theorem zd0_572 : decode (z_b 0) 572 = .ok (.iaload, 1) := z_fwE z_dt0_7 36 rfl
theorem zd0_573 : decode (z_b 0) 573 = .ok (.aload_n 0, 1) := z_fwE z_dt0_7 37 rfl
theorem zd0_574 : decode (z_b 0) 574 = .ok (.iload_n 3, 1) := z_fwE z_dt0_7 38 rfl
theorem zd0_575 : decode (z_b 0) 575 = .ok (.iconst 3, 1) := z_fwE z_dt0_7 39 rfl
def z_dl0_8 : List (Nat × Instr × Nat) := [(576, .iadd, 1), (577, .iaload, 1), (578, .aload_n 0, 1), (579, .iload_n 3, 1), (580, .iconst 4, 1), (581, .iadd, 1), (582, .iaload, 1), (583, .invokevirtual 56, 3), (586, .pop, 1), (587, .goto 1187, 3), (590, .aload_n 1, 1), (591, .aload_n 0, 1), (592, .iload_n 3, 1), (593, .iconst 1, 1), (594, .iadd, 1), (595, .iaload, 1), (596, .aload_n 0, 1), (597, .iload_n 3, 1), (598, .iconst 2, 1), (599, .iadd, 1), (600, .iaload, 1), (601, .aload_n 0, 1), (602, .iload_n 3, 1), (603, .iconst 3, 1), (604, .iadd, 1), (605, .iaload, 1), (606, .aload_n 0, 1), (607, .iload_n 3, 1), (608, .iconst 4, 1), (609, .iadd, 1), (610, .iaload, 1), (611, .invokevirtual 57, 3), (614, .pop, 1), (615, .aload_n 2, 1), (616, .aload_n 0, 1), (617, .iload_n 3, 1), (618, .iconst 1, 1), (619, .iadd, 1), (620, .iaload, 1), (621, .aload_n 0, 1)]
theorem z_dt0_8 : z_fwj 0 576 z_dl0_8 = true := by decide +kernel
theorem zd0_576 : decode (z_b 0) 576 = .ok (.iadd, 1) := z_fwE z_dt0_8 0 rfl
theorem zd0_577 : decode (z_b 0) 577 = .ok (.iaload, 1) := z_fwE z_dt0_8 1 rfl
theorem zd0_578 : decode (z_b 0) 578 = .ok (.aload_n 0, 1) := z_fwE z_dt0_8 2 rfl
theorem zd0_579 : decode (z_b 0) 579 = .ok (.iload_n 3, 1) := z_fwE z_dt0_8 3 rfl
theorem zd0_580 : decode (z_b 0) 580 = .ok (.iconst 4, 1) := z_fwE z_dt0_8 4 rfl
theorem zd0_581 : decode (z_b 0) 581 = .ok (.iadd, 1) := z_fwE z_dt0_8 5 rfl
theorem zd0_582 : decode (z_b 0) 582 = .ok (.iaload, 1) := z_fwE z_dt0_8 6 rfl
theorem zd0_583 : decode (z_b 0) 583 = .ok (.invokevirtual 56, 3) := z_fwE z_dt0_8 7 rfl
theorem zd0_586 : decode (z_b 0) 586 = .ok (.pop, 1) := z_fwE z_dt0_8 8 rfl
theorem zd0_587 : decode (z_b 0) 587 = .ok (.goto 1187, 3) := z_fwE z_dt0_8 9 rfl
theorem zd0_590 : decode (z_b 0) 590 = .ok (.aload_n 1, 1) := z_fwE z_dt0_8 10 rfl
theorem zd0_591 : decode (z_b 0) 591 = .ok (.aload_n 0, 1) := z_fwE z_dt0_8 11 rfl
theorem zd0_592 : decode (z_b 0) 592 = .ok (.iload_n 3, 1) := z_fwE z_dt0_8 12 rfl
theorem zd0_593 : decode (z_b 0) 593 = .ok (.iconst 1, 1) := z_fwE z_dt0_8 13 rfl
theorem zd0_594 : decode (z_b 0) 594 = .ok (.iadd, 1) := z_fwE z_dt0_8 14 rfl
theorem zd0_595 : decode (z_b 0) 595 = .ok (.iaload, 1) := z_fwE z_dt0_8 15 rfl
theorem zd0_596 : decode (z_b 0) 596 = .ok (.aload_n 0, 1) := z_fwE z_dt0_8 16 rfl
theorem zd0_597 : decode (z_b 0) 597 = .ok (.iload_n 3, 1) := z_fwE z_dt0_8 17 rfl
theorem zd0_598 : decode (z_b 0) 598 = .ok (.iconst 2, 1) := z_fwE z_dt0_8 18 rfl
theorem zd0_599 : decode (z_b 0) 599 = .ok (.iadd, 1) := z_fwE z_dt0_8 19 rfl
theorem zd0_600 : decode (z_b 0) 600 = .ok (.iaload, 1) := z_fwE z_dt0_8 20 rfl
theorem zd0_601 : decode (z_b 0) 601 = .ok (.aload_n 0, 1) := z_fwE z_dt0_8 21 rfl
theorem zd0_602 : decode (z_b 0) 602 = .ok (.iload_n 3, 1) := z_fwE z_dt0_8 22 rfl
theorem zd0_603 : decode (z_b 0) 603 = .ok (.iconst 3, 1) := z_fwE z_dt0_8 23 rfl
theorem zd0_604 : decode (z_b 0) 604 = .ok (.iadd, 1) := z_fwE z_dt0_8 24 rfl
theorem zd0_605 : decode (z_b 0) 605 = .ok (.iaload, 1) := z_fwE z_dt0_8 25 rfl
theorem zd0_606 : decode (z_b 0) 606 = .ok (.aload_n 0, 1) := z_fwE z_dt0_8 26 rfl
theorem zd0_607 : decode (z_b 0) 607 = .ok (.iload_n 3, 1) := z_fwE z_dt0_8 27 rfl
theorem zd0_608 : decode (z_b 0) 608 = .ok (.iconst 4, 1) := z_fwE z_dt0_8 28 rfl
theorem zd0_609 : decode (z_b 0) 609 = .ok (.iadd, 1) := z_fwE z_dt0_8 29 rfl
theorem zd0_610 : decode (z_b 0) 610 = .ok (.iaload, 1) := z_fwE z_dt0_8 30 rfl
theorem zd0_611 : decode (z_b 0) 611 = .ok (.invokevirtual 57, 3) := z_fwE z_dt0_8 31 rfl
theorem zd0_614 : decode (z_b 0) 614 = .ok (.pop, 1) := z_fwE z_dt0_8 32 rfl
theorem zd0_615 : decode (z_b 0) 615 = .ok (.aload_n 2, 1) := z_fwE z_dt0_8 33 rfl
theorem zd0_616 : decode (z_b 0) 616 = .ok (.aload_n 0, 1) := z_fwE z_dt0_8 34 rfl
theorem zd0_617 : decode (z_b 0) 617 = .ok (.iload_n 3, 1) := z_fwE z_dt0_8 35 rfl
theorem zd0_618 : decode (z_b 0) 618 = .ok (.iconst 1, 1) := z_fwE z_dt0_8 36 rfl
theorem zd0_619 : decode (z_b 0) 619 = .ok (.iadd, 1) := z_fwE z_dt0_8 37 rfl
theorem zd0_620 : decode (z_b 0) 620 = .ok (.iaload, 1) := z_fwE z_dt0_8 38 rfl
theorem zd0_621 : decode (z_b 0) 621 = .ok (.aload_n 0, 1) := z_fwE z_dt0_8 39 rfl
def z_dl0_9 : List (Nat × Instr × Nat) := [(622, .iload_n 3, 1), (623, .iconst 2, 1), (624, .iadd, 1), (625, .iaload, 1), (626, .aload_n 0, 1), (627, .iload_n 3, 1), (628, .iconst 3, 1), (629, .iadd, 1), (630, .iaload, 1), (631, .aload_n 0, 1), (632, .iload_n 3, 1), (633, .iconst 4, 1), (634, .iadd, 1), (635, .iaload, 1), (636, .invokevirtual 60, 3), (639, .pop, 1), (640, .goto 1134, 3), (643, .aload_n 1, 1), (644, .aload_n 0, 1), (645, .iload_n 3, 1), (646, .iconst 1, 1), (647, .iadd, 1), (648, .iaload, 1), (649, .invokevirtual 61, 3), (652, .pop, 1), (653, .aload_n 2, 1), (654, .aload_n 0, 1), (655, .iload_n 3, 1), (656, .iconst 1, 1), (657, .iadd, 1), (658, .iaload, 1), (659, .invokevirtual 65, 3), (662, .pop, 1), (663, .goto 1111, 3), (666, .aload_n 1, 1), (667, .aload_n 0, 1), (668, .iload_n 3, 1), (669, .iconst 1, 1), (670, .iadd, 1), (671, .iaload, 1)]
theorem z_dt0_9 : z_fwj 0 622 z_dl0_9 = true := by decide +kernel
theorem zd0_622 : decode (z_b 0) 622 = .ok (.iload_n 3, 1) := z_fwE z_dt0_9 0 rfl
theorem zd0_623 : decode (z_b 0) 623 = .ok (.iconst 2, 1) := z_fwE z_dt0_9 1 rfl
theorem zd0_624 : decode (z_b 0) 624 = .ok (.iadd, 1) := z_fwE z_dt0_9 2 rfl
theorem zd0_625 : decode (z_b 0) 625 = .ok (.iaload, 1) := z_fwE z_dt0_9 3 rfl
theorem zd0_626 : decode (z_b 0) 626 = .ok (.aload_n 0, 1) := z_fwE z_dt0_9 4 rfl
theorem zd0_627 : decode (z_b 0) 627 = .ok (.iload_n 3, 1) := z_fwE z_dt0_9 5 rfl
theorem zd0_628 : decode (z_b 0) 628 = .ok (.iconst 3, 1) := z_fwE z_dt0_9 6 rfl
theorem zd0_629 : decode (z_b 0) 629 = .ok (.iadd, 1) := z_fwE z_dt0_9 7 rfl
theorem zd0_630 : decode (z_b 0) 630 = .ok (.iaload, 1) := z_fwE z_dt0_9 8 rfl
theorem zd0_631 : decode (z_b 0) 631 = .ok (.aload_n 0, 1) := z_fwE z_dt0_9 9 rfl
theorem zd0_632 : decode (z_b 0) 632 = .ok (.iload_n 3, 1) := z_fwE z_dt0_9 10 rfl
theorem zd0_633 : decode (z_b 0) 633 = .ok (.iconst 4, 1) := z_fwE z_dt0_9 11 rfl
theorem zd0_634 : decode (z_b 0) 634 = .ok (.iadd, 1) := z_fwE z_dt0_9 12 rfl
theorem zd0_635 : decode (z_b 0) 635 = .ok (.iaload, 1) := z_fwE z_dt0_9 13 rfl
theorem zd0_636 : decode (z_b 0) 636 = .ok (.invokevirtual 60, 3) := z_fwE z_dt0_9 14 rfl
theorem zd0_639 : decode (z_b 0) 639 = .ok (.pop, 1) := z_fwE z_dt0_9 15 rfl
theorem zd0_640 : decode (z_b 0) 640 = .ok (.goto 1134, 3) := z_fwE z_dt0_9 16 rfl
theorem zd0_643 : decode (z_b 0) 643 = .ok (.aload_n 1, 1) := z_fwE z_dt0_9 17 rfl
theorem zd0_644 : decode (z_b 0) 644 = .ok (.aload_n 0, 1) := z_fwE z_dt0_9 18 rfl
theorem zd0_645 : decode (z_b 0) 645 = .ok (.iload_n 3, 1) := z_fwE z_dt0_9 19 rfl
theorem zd0_646 : decode (z_b 0) 646 = .ok (.iconst 1, 1) := z_fwE z_dt0_9 20 rfl
theorem zd0_647 : decode (z_b 0) 647 = .ok (.iadd, 1) := z_fwE z_dt0_9 21 rfl
theorem zd0_648 : decode (z_b 0) 648 = .ok (.iaload, 1) := z_fwE z_dt0_9 22 rfl
theorem zd0_649 : decode (z_b 0) 649 = .ok (.invokevirtual 61, 3) := z_fwE z_dt0_9 23 rfl
theorem zd0_652 : decode (z_b 0) 652 = .ok (.pop, 1) := z_fwE z_dt0_9 24 rfl
theorem zd0_653 : decode (z_b 0) 653 = .ok (.aload_n 2, 1) := z_fwE z_dt0_9 25 rfl
theorem zd0_654 : decode (z_b 0) 654 = .ok (.aload_n 0, 1) := z_fwE z_dt0_9 26 rfl
theorem zd0_655 : decode (z_b 0) 655 = .ok (.iload_n 3, 1) := z_fwE z_dt0_9 27 rfl
theorem zd0_656 : decode (z_b 0) 656 = .ok (.iconst 1, 1) := z_fwE z_dt0_9 28 rfl
theorem zd0_657 : decode (z_b 0) 657 = .ok (.iadd, 1) := z_fwE z_dt0_9 29 rfl
theorem zd0_658 : decode (z_b 0) 658 = .ok (.iaload, 1) := z_fwE z_dt0_9 30 rfl
theorem zd0_659 : decode (z_b 0) 659 = .ok (.invokevirtual 65, 3) := z_fwE z_dt0_9 31 rfl
theorem zd0_662 : decode (z_b 0) 662 = .ok (.pop, 1) := z_fwE z_dt0_9 32 rfl
theorem zd0_663 : decode (z_b 0) 663 = .ok (.goto 1111, 3) := z_fwE z_dt0_9 33 rfl
theorem zd0_666 : decode (z_b 0) 666 = .ok (.aload_n 1, 1) := z_fwE z_dt0_9 34 rfl
theorem zd0_667 : decode (z_b 0) 667 = .ok (.aload_n 0, 1) := z_fwE z_dt0_9 35 rfl
theorem zd0_668 : decode (z_b 0) 668 = .ok (.iload_n 3, 1) := z_fwE z_dt0_9 36 rfl
theorem zd0_669 : decode (z_b 0) 669 = .ok (.iconst 1, 1) := z_fwE z_dt0_9 37 rfl
theorem zd0_670 : decode (z_b 0) 670 = .ok (.iadd, 1) := z_fwE z_dt0_9 38 rfl
theorem zd0_671 : decode (z_b 0) 671 = .ok (.iaload, 1) := z_fwE z_dt0_9 39 rfl
def z_dl0_10 : List (Nat × Instr × Nat) := [(672, .aload_n 0, 1), (673, .iload_n 3, 1), (674, .iconst 2, 1), (675, .iadd, 1), (676, .iaload, 1), (677, .aload_n 0, 1), (678, .iload_n 3, 1), (679, .iconst 3, 1), (680, .iadd, 1), (681, .iaload, 1), (682, .invokevirtual 66, 3), (685, .pop, 1), (686, .aload_n 2, 1), (687, .aload_n 0, 1), (688, .iload_n 3, 1), (689, .iconst 1, 1), (690, .iadd, 1), (691, .iaload, 1), (692, .aload_n 0, 1), (693, .iload_n 3, 1), (694, .iconst 2, 1), (695, .iadd, 1), (696, .iaload, 1), (697, .aload_n 0, 1), (698, .iload_n 3, 1), (699, .iconst 3, 1), (700, .iadd, 1), (701, .iaload, 1), (702, .invokevirtual 69, 3), (705, .pop, 1), (706, .goto 1068, 3), (709, .aload_n 1, 1), (710, .aload_n 0, 1), (711, .iload_n 3, 1), (712, .iconst 1, 1), (713, .iadd, 1), (714, .iaload, 1), (715, .aload_n 0, 1), (716, .iload_n 3, 1), (717, .iconst 2, 1)]
theorem z_dt0_10 : z_fwj 0 672 z_dl0_10 = true := by decide +kernel
theorem zd0_672 : decode (z_b 0) 672 = .ok (.aload_n 0, 1) := z_fwE z_dt0_10 0 rfl
theorem zd0_673 : decode (z_b 0) 673 = .ok (.iload_n 3, 1) := z_fwE z_dt0_10 1 rfl
theorem zd0_674 : decode (z_b 0) 674 = .ok (.iconst 2, 1) := z_fwE z_dt0_10 2 rfl
theorem zd0_675 : decode (z_b 0) 675 = .ok (.iadd, 1) := z_fwE z_dt0_10 3 rfl
theorem zd0_676 : decode (z_b 0) 676 = .ok (.iaload, 1) := z_fwE z_dt0_10 4 rfl
theorem zd0_677 : decode (z_b 0) 677 = .ok (.aload_n 0, 1) := z_fwE z_dt0_10 5 rfl
theorem zd0_678 : decode (z_b 0) 678 = .ok (.iload_n 3, 1) := z_fwE z_dt0_10 6 rfl
theorem zd0_679 : decode (z_b 0) 679 = .ok (.iconst 3, 1) := z_fwE z_dt0_10 7 rfl
theorem zd0_680 : decode (z_b 0) 680 = .ok (.iadd, 1) := z_fwE z_dt0_10 8 rfl
theorem zd0_681 : decode (z_b 0) 681 = .ok (.iaload, 1) := z_fwE z_dt0_10 9 rfl
theorem zd0_682 : decode (z_b 0) 682 = .ok (.invokevirtual 66, 3) := z_fwE z_dt0_10 10 rfl
theorem zd0_685 : decode (z_b 0) 685 = .ok (.pop, 1) := z_fwE z_dt0_10 11 rfl
theorem zd0_686 : decode (z_b 0) 686 = .ok (.aload_n 2, 1) := z_fwE z_dt0_10 12 rfl
theorem zd0_687 : decode (z_b 0) 687 = .ok (.aload_n 0, 1) := z_fwE z_dt0_10 13 rfl
theorem zd0_688 : decode (z_b 0) 688 = .ok (.iload_n 3, 1) := z_fwE z_dt0_10 14 rfl
theorem zd0_689 : decode (z_b 0) 689 = .ok (.iconst 1, 1) := z_fwE z_dt0_10 15 rfl
theorem zd0_690 : decode (z_b 0) 690 = .ok (.iadd, 1) := z_fwE z_dt0_10 16 rfl
theorem zd0_691 : decode (z_b 0) 691 = .ok (.iaload, 1) := z_fwE z_dt0_10 17 rfl
theorem zd0_692 : decode (z_b 0) 692 = .ok (.aload_n 0, 1) := z_fwE z_dt0_10 18 rfl
theorem zd0_693 : decode (z_b 0) 693 = .ok (.iload_n 3, 1) := z_fwE z_dt0_10 19 rfl
theorem zd0_694 : decode (z_b 0) 694 = .ok (.iconst 2, 1) := z_fwE z_dt0_10 20 rfl
theorem zd0_695 : decode (z_b 0) 695 = .ok (.iadd, 1) := z_fwE z_dt0_10 21 rfl
theorem zd0_696 : decode (z_b 0) 696 = .ok (.iaload, 1) := z_fwE z_dt0_10 22 rfl
theorem zd0_697 : decode (z_b 0) 697 = .ok (.aload_n 0, 1) := z_fwE z_dt0_10 23 rfl
theorem zd0_698 : decode (z_b 0) 698 = .ok (.iload_n 3, 1) := z_fwE z_dt0_10 24 rfl
theorem zd0_699 : decode (z_b 0) 699 = .ok (.iconst 3, 1) := z_fwE z_dt0_10 25 rfl
theorem zd0_700 : decode (z_b 0) 700 = .ok (.iadd, 1) := z_fwE z_dt0_10 26 rfl
theorem zd0_701 : decode (z_b 0) 701 = .ok (.iaload, 1) := z_fwE z_dt0_10 27 rfl
theorem zd0_702 : decode (z_b 0) 702 = .ok (.invokevirtual 69, 3) := z_fwE z_dt0_10 28 rfl
theorem zd0_705 : decode (z_b 0) 705 = .ok (.pop, 1) := z_fwE z_dt0_10 29 rfl
theorem zd0_706 : decode (z_b 0) 706 = .ok (.goto 1068, 3) := z_fwE z_dt0_10 30 rfl
theorem zd0_709 : decode (z_b 0) 709 = .ok (.aload_n 1, 1) := z_fwE z_dt0_10 31 rfl
theorem zd0_710 : decode (z_b 0) 710 = .ok (.aload_n 0, 1) := z_fwE z_dt0_10 32 rfl
theorem zd0_711 : decode (z_b 0) 711 = .ok (.iload_n 3, 1) := z_fwE z_dt0_10 33 rfl
theorem zd0_712 : decode (z_b 0) 712 = .ok (.iconst 1, 1) := z_fwE z_dt0_10 34 rfl
theorem zd0_713 : decode (z_b 0) 713 = .ok (.iadd, 1) := z_fwE z_dt0_10 35 rfl
theorem zd0_714 : decode (z_b 0) 714 = .ok (.iaload, 1) := z_fwE z_dt0_10 36 rfl
theorem zd0_715 : decode (z_b 0) 715 = .ok (.aload_n 0, 1) := z_fwE z_dt0_10 37 rfl
theorem zd0_716 : decode (z_b 0) 716 = .ok (.iload_n 3, 1) := z_fwE z_dt0_10 38 rfl
theorem zd0_717 : decode (z_b 0) 717 = .ok (.iconst 2, 1) := z_fwE z_dt0_10 39 rfl
def z_dl0_11 : List (Nat × Instr × Nat) := [(718, .iadd, 1), (719, .iaload, 1), (720, .aload_n 0, 1), (721, .iload_n 3, 1), (722, .iconst 3, 1), (723, .iadd, 1), (724, .iaload, 1), (725, .invokevirtual 70, 3), (728, .pop, 1), (729, .aload_n 2, 1), (730, .aload_n 0, 1), (731, .iload_n 3, 1), (732, .iconst 1, 1), (733, .iadd, 1), (734, .iaload, 1), (735, .aload_n 0, 1), (736, .iload_n 3, 1), (737, .iconst 2, 1), (738, .iadd, 1), (739, .iaload, 1), (740, .aload_n 0, 1), (741, .iload_n 3, 1), (742, .iconst 3, 1), (743, .iadd, 1), (744, .iaload, 1), (745, .invokevirtual 73, 3), (748, .pop, 1), (749, .goto 1025, 3), (752, .aload_n 1, 1), (753, .aload_n 0, 1), (754, .iload_n 3, 1), (755, .iconst 1, 1), (756, .iadd, 1), (757, .iaload, 1), (758, .aload_n 0, 1), (759, .iload_n 3, 1), (760, .iconst 2, 1), (761, .iadd, 1), (762, .iaload, 1), (763, .invokevirtual 74, 3)]
theorem z_dt0_11 : z_fwj 0 718 z_dl0_11 = true := by decide +kernel
theorem zd0_718 : decode (z_b 0) 718 = .ok (.iadd, 1) := z_fwE z_dt0_11 0 rfl
theorem zd0_719 : decode (z_b 0) 719 = .ok (.iaload, 1) := z_fwE z_dt0_11 1 rfl
theorem zd0_720 : decode (z_b 0) 720 = .ok (.aload_n 0, 1) := z_fwE z_dt0_11 2 rfl
theorem zd0_721 : decode (z_b 0) 721 = .ok (.iload_n 3, 1) := z_fwE z_dt0_11 3 rfl
theorem zd0_722 : decode (z_b 0) 722 = .ok (.iconst 3, 1) := z_fwE z_dt0_11 4 rfl
theorem zd0_723 : decode (z_b 0) 723 = .ok (.iadd, 1) := z_fwE z_dt0_11 5 rfl
theorem zd0_724 : decode (z_b 0) 724 = .ok (.iaload, 1) := z_fwE z_dt0_11 6 rfl
theorem zd0_725 : decode (z_b 0) 725 = .ok (.invokevirtual 70, 3) := z_fwE z_dt0_11 7 rfl
theorem zd0_728 : decode (z_b 0) 728 = .ok (.pop, 1) := z_fwE z_dt0_11 8 rfl
theorem zd0_729 : decode (z_b 0) 729 = .ok (.aload_n 2, 1) := z_fwE z_dt0_11 9 rfl
theorem zd0_730 : decode (z_b 0) 730 = .ok (.aload_n 0, 1) := z_fwE z_dt0_11 10 rfl
theorem zd0_731 : decode (z_b 0) 731 = .ok (.iload_n 3, 1) := z_fwE z_dt0_11 11 rfl
theorem zd0_732 : decode (z_b 0) 732 = .ok (.iconst 1, 1) := z_fwE z_dt0_11 12 rfl
theorem zd0_733 : decode (z_b 0) 733 = .ok (.iadd, 1) := z_fwE z_dt0_11 13 rfl
theorem zd0_734 : decode (z_b 0) 734 = .ok (.iaload, 1) := z_fwE z_dt0_11 14 rfl
theorem zd0_735 : decode (z_b 0) 735 = .ok (.aload_n 0, 1) := z_fwE z_dt0_11 15 rfl
theorem zd0_736 : decode (z_b 0) 736 = .ok (.iload_n 3, 1) := z_fwE z_dt0_11 16 rfl
theorem zd0_737 : decode (z_b 0) 737 = .ok (.iconst 2, 1) := z_fwE z_dt0_11 17 rfl
theorem zd0_738 : decode (z_b 0) 738 = .ok (.iadd, 1) := z_fwE z_dt0_11 18 rfl
theorem zd0_739 : decode (z_b 0) 739 = .ok (.iaload, 1) := z_fwE z_dt0_11 19 rfl
theorem zd0_740 : decode (z_b 0) 740 = .ok (.aload_n 0, 1) := z_fwE z_dt0_11 20 rfl
theorem zd0_741 : decode (z_b 0) 741 = .ok (.iload_n 3, 1) := z_fwE z_dt0_11 21 rfl
theorem zd0_742 : decode (z_b 0) 742 = .ok (.iconst 3, 1) := z_fwE z_dt0_11 22 rfl
theorem zd0_743 : decode (z_b 0) 743 = .ok (.iadd, 1) := z_fwE z_dt0_11 23 rfl
theorem zd0_744 : decode (z_b 0) 744 = .ok (.iaload, 1) := z_fwE z_dt0_11 24 rfl
theorem zd0_745 : decode (z_b 0) 745 = .ok (.invokevirtual 73, 3) := z_fwE z_dt0_11 25 rfl
theorem zd0_748 : decode (z_b 0) 748 = .ok (.pop, 1) := z_fwE z_dt0_11 26 rfl
theorem zd0_749 : decode (z_b 0) 749 = .ok (.goto 1025, 3) := z_fwE z_dt0_11 27 rfl
theorem zd0_752 : decode (z_b 0) 752 = .ok (.aload_n 1, 1) := z_fwE z_dt0_11 28 rfl
theorem zd0_753 : decode (z_b 0) 753 = .ok (.aload_n 0, 1) := z_fwE z_dt0_11 29 rfl
theorem zd0_754 : decode (z_b 0) 754 = .ok (.iload_n 3, 1) := z_fwE z_dt0_11 30 rfl
theorem zd0_755 : decode (z_b 0) 755 = .ok (.iconst 1, 1) := z_fwE z_dt0_11 31 rfl
theorem zd0_756 : decode (z_b 0) 756 = .ok (.iadd, 1) := z_fwE z_dt0_11 32 rfl
theorem zd0_757 : decode (z_b 0) 757 = .ok (.iaload, 1) := z_fwE z_dt0_11 33 rfl
theorem zd0_758 : decode (z_b 0) 758 = .ok (.aload_n 0, 1) := z_fwE z_dt0_11 34 rfl
theorem zd0_759 : decode (z_b 0) 759 = .ok (.iload_n 3, 1) := z_fwE z_dt0_11 35 rfl
theorem zd0_760 : decode (z_b 0) 760 = .ok (.iconst 2, 1) := z_fwE z_dt0_11 36 rfl
theorem zd0_761 : decode (z_b 0) 761 = .ok (.iadd, 1) := z_fwE z_dt0_11 37 rfl
theorem zd0_762 : decode (z_b 0) 762 = .ok (.iaload, 1) := z_fwE z_dt0_11 38 rfl
theorem zd0_763 : decode (z_b 0) 763 = .ok (.invokevirtual 74, 3) := z_fwE z_dt0_11 39 rfl
def z_dl0_12 : List (Nat × Instr × Nat) := [(766, .pop, 1), (767, .aload_n 2, 1), (768, .aload_n 0, 1), (769, .iload_n 3, 1), (770, .iconst 1, 1), (771, .iadd, 1), (772, .iaload, 1), (773, .aload_n 0, 1), (774, .iload_n 3, 1), (775, .iconst 2, 1), (776, .iadd, 1), (777, .iaload, 1), (778, .invokevirtual 77, 3), (781, .pop, 1), (782, .goto 992, 3), (785, .aload_n 1, 1), (786, .aload_n 0, 1), (787, .iload_n 3, 1), (788, .iconst 1, 1), (789, .iadd, 1), (790, .iaload, 1), (791, .aload_n 0, 1), (792, .iload_n 3, 1), (793, .iconst 2, 1), (794, .iadd, 1), (795, .iaload, 1), (796, .invokevirtual 78, 3), (799, .pop, 1), (800, .aload_n 2, 1), (801, .aload_n 0, 1), (802, .iload_n 3, 1), (803, .iconst 1, 1), (804, .iadd, 1), (805, .iaload, 1), (806, .aload_n 0, 1), (807, .iload_n 3, 1), (808, .iconst 2, 1), (809, .iadd, 1), (810, .iaload, 1), (811, .invokevirtual 81, 3)]
theorem z_dt0_12 : z_fwj 0 766 z_dl0_12 = true := by decide +kernel
theorem zd0_766 : decode (z_b 0) 766 = .ok (.pop, 1) := z_fwE z_dt0_12 0 rfl
theorem zd0_767 : decode (z_b 0) 767 = .ok (.aload_n 2, 1) := z_fwE z_dt0_12 1 rfl
theorem zd0_768 : decode (z_b 0) 768 = .ok (.aload_n 0, 1) := z_fwE z_dt0_12 2 rfl
theorem zd0_769 : decode (z_b 0) 769 = .ok (.iload_n 3, 1) := z_fwE z_dt0_12 3 rfl
theorem zd0_770 : decode (z_b 0) 770 = .ok (.iconst 1, 1) := z_fwE z_dt0_12 4 rfl
theorem zd0_771 : decode (z_b 0) 771 = .ok (.iadd, 1) := z_fwE z_dt0_12 5 rfl
theorem zd0_772 : decode (z_b 0) 772 = .ok (.iaload, 1) := z_fwE z_dt0_12 6 rfl
theorem zd0_773 : decode (z_b 0) 773 = .ok (.aload_n 0, 1) := z_fwE z_dt0_12 7 rfl
theorem zd0_774 : decode (z_b 0) 774 = .ok (.iload_n 3, 1) := z_fwE z_dt0_12 8 rfl
theorem zd0_775 : decode (z_b 0) 775 = .ok (.iconst 2, 1) := z_fwE z_dt0_12 9 rfl
theorem zd0_776 : decode (z_b 0) 776 = .ok (.iadd, 1) := z_fwE z_dt0_12 10 rfl
theorem zd0_777 : decode (z_b 0) 777 = .ok (.iaload, 1) := z_fwE z_dt0_12 11 rfl
theorem zd0_778 : decode (z_b 0) 778 = .ok (.invokevirtual 77, 3) := z_fwE z_dt0_12 12 rfl
theorem zd0_781 : decode (z_b 0) 781 = .ok (.pop, 1) := z_fwE z_dt0_12 13 rfl
theorem zd0_782 : decode (z_b 0) 782 = .ok (.goto 992, 3) := z_fwE z_dt0_12 14 rfl
theorem zd0_785 : decode (z_b 0) 785 = .ok (.aload_n 1, 1) := z_fwE z_dt0_12 15 rfl
theorem zd0_786 : decode (z_b 0) 786 = .ok (.aload_n 0, 1) := z_fwE z_dt0_12 16 rfl
theorem zd0_787 : decode (z_b 0) 787 = .ok (.iload_n 3, 1) := z_fwE z_dt0_12 17 rfl
theorem zd0_788 : decode (z_b 0) 788 = .ok (.iconst 1, 1) := z_fwE z_dt0_12 18 rfl
theorem zd0_789 : decode (z_b 0) 789 = .ok (.iadd, 1) := z_fwE z_dt0_12 19 rfl
theorem zd0_790 : decode (z_b 0) 790 = .ok (.iaload, 1) := z_fwE z_dt0_12 20 rfl
theorem zd0_791 : decode (z_b 0) 791 = .ok (.aload_n 0, 1) := z_fwE z_dt0_12 21 rfl
theorem zd0_792 : decode (z_b 0) 792 = .ok (.iload_n 3, 1) := z_fwE z_dt0_12 22 rfl
theorem zd0_793 : decode (z_b 0) 793 = .ok (.iconst 2, 1) := z_fwE z_dt0_12 23 rfl
theorem zd0_794 : decode (z_b 0) 794 = .ok (.iadd, 1) := z_fwE z_dt0_12 24 rfl
theorem zd0_795 : decode (z_b 0) 795 = .ok (.iaload, 1) := z_fwE z_dt0_12 25 rfl
theorem zd0_796 : decode (z_b 0) 796 = .ok (.invokevirtual 78, 3) := z_fwE z_dt0_12 26 rfl
theorem zd0_799 : decode (z_b 0) 799 = .ok (.pop, 1) := z_fwE z_dt0_12 27 rfl
theorem zd0_800 : decode (z_b 0) 800 = .ok (.aload_n 2, 1) := z_fwE z_dt0_12 28 rfl
theorem zd0_801 : decode (z_b 0) 801 = .ok (.aload_n 0, 1) := z_fwE z_dt0_12 29 rfl
theorem zd0_802 : decode (z_b 0) 802 = .ok (.iload_n 3, 1) := z_fwE z_dt0_12 30 rfl
theorem zd0_803 : decode (z_b 0) 803 = .ok (.iconst 1, 1) := z_fwE z_dt0_12 31 rfl
theorem zd0_804 : decode (z_b 0) 804 = .ok (.iadd, 1) := z_fwE z_dt0_12 32 rfl
theorem zd0_805 : decode (z_b 0) 805 = .ok (.iaload, 1) := z_fwE z_dt0_12 33 rfl
theorem zd0_806 : decode (z_b 0) 806 = .ok (.aload_n 0, 1) := z_fwE z_dt0_12 34 rfl
theorem zd0_807 : decode (z_b 0) 807 = .ok (.iload_n 3, 1) := z_fwE z_dt0_12 35 rfl
theorem zd0_808 : decode (z_b 0) 808 = .ok (.iconst 2, 1) := z_fwE z_dt0_12 36 rfl
theorem zd0_809 : decode (z_b 0) 809 = .ok (.iadd, 1) := z_fwE z_dt0_12 37 rfl
theorem zd0_810 : decode (z_b 0) 810 = .ok (.iaload, 1) := z_fwE z_dt0_12 38 rfl
theorem zd0_811 : decode (z_b 0) 811 = .ok (.invokevirtual 81, 3) := z_fwE z_dt0_12 39 rfl
def z_dl0_13 : List (Nat × Instr × Nat) := [(814, .pop, 1), (815, .goto 959, 3), (818, .aload_n 1, 1), (819, .aload_n 0, 1), (820, .iload_n 3, 1), (821, .iconst 1, 1), (822, .iadd, 1), (823, .iaload, 1), (824, .aload_n 0, 1), (825, .iload_n 3, 1), (826, .iconst 2, 1), (827, .iadd, 1), (828, .iaload, 1), (829, .aload_n 0, 1), (830, .iload_n 3, 1), (831, .iconst 3, 1), (832, .iadd, 1), (833, .iaload, 1), (834, .invokevirtual 82, 3), (837, .pop, 1), (838, .aload_n 2, 1), (839, .aload_n 0, 1), (840, .iload_n 3, 1), (841, .iconst 1, 1), (842, .iadd, 1), (843, .iaload, 1), (844, .aload_n 0, 1), (845, .iload_n 3, 1), (846, .iconst 2, 1), (847, .iadd, 1), (848, .iaload, 1), (849, .aload_n 0, 1), (850, .iload_n 3, 1), (851, .iconst 3, 1), (852, .iadd, 1), (853, .iaload, 1), (854, .invokevirtual 85, 3), (857, .pop, 1), (858, .goto 916, 3), (861, .aload_n 1, 1)]
theorem z_dt0_13 : z_fwj 0 814 z_dl0_13 = true := by decide +kernel
theorem zd0_814 : decode (z_b 0) 814 = .ok (.pop, 1) := z_fwE z_dt0_13 0 rfl
theorem zd0_815 : decode (z_b 0) 815 = .ok (.goto 959, 3) := z_fwE z_dt0_13 1 rfl
theorem zd0_818 : decode (z_b 0) 818 = .ok (.aload_n 1, 1) := z_fwE z_dt0_13 2 rfl
theorem zd0_819 : decode (z_b 0) 819 = .ok (.aload_n 0, 1) := z_fwE z_dt0_13 3 rfl
theorem zd0_820 : decode (z_b 0) 820 = .ok (.iload_n 3, 1) := z_fwE z_dt0_13 4 rfl
theorem zd0_821 : decode (z_b 0) 821 = .ok (.iconst 1, 1) := z_fwE z_dt0_13 5 rfl
theorem zd0_822 : decode (z_b 0) 822 = .ok (.iadd, 1) := z_fwE z_dt0_13 6 rfl
theorem zd0_823 : decode (z_b 0) 823 = .ok (.iaload, 1) := z_fwE z_dt0_13 7 rfl
theorem zd0_824 : decode (z_b 0) 824 = .ok (.aload_n 0, 1) := z_fwE z_dt0_13 8 rfl
theorem zd0_825 : decode (z_b 0) 825 = .ok (.iload_n 3, 1) := z_fwE z_dt0_13 9 rfl
theorem zd0_826 : decode (z_b 0) 826 = .ok (.iconst 2, 1) := z_fwE z_dt0_13 10 rfl
theorem zd0_827 : decode (z_b 0) 827 = .ok (.iadd, 1) := z_fwE z_dt0_13 11 rfl
theorem zd0_828 : decode (z_b 0) 828 = .ok (.iaload, 1) := z_fwE z_dt0_13 12 rfl
theorem zd0_829 : decode (z_b 0) 829 = .ok (.aload_n 0, 1) := z_fwE z_dt0_13 13 rfl
theorem zd0_830 : decode (z_b 0) 830 = .ok (.iload_n 3, 1) := z_fwE z_dt0_13 14 rfl
theorem zd0_831 : decode (z_b 0) 831 = .ok (.iconst 3, 1) := z_fwE z_dt0_13 15 rfl
theorem zd0_832 : decode (z_b 0) 832 = .ok (.iadd, 1) := z_fwE z_dt0_13 16 rfl
theorem zd0_833 : decode (z_b 0) 833 = .ok (.iaload, 1) := z_fwE z_dt0_13 17 rfl
theorem zd0_834 : decode (z_b 0) 834 = .ok (.invokevirtual 82, 3) := z_fwE z_dt0_13 18 rfl
theorem zd0_837 : decode (z_b 0) 837 = .ok (.pop, 1) := z_fwE z_dt0_13 19 rfl
theorem zd0_838 : decode (z_b 0) 838 = .ok (.aload_n 2, 1) := z_fwE z_dt0_13 20 rfl
theorem zd0_839 : decode (z_b 0) 839 = .ok (.aload_n 0, 1) := z_fwE z_dt0_13 21 rfl
theorem zd0_840 : decode (z_b 0) 840 = .ok (.iload_n 3, 1) := z_fwE z_dt0_13 22 rfl
theorem zd0_841 : decode (z_b 0) 841 = .ok (.iconst 1, 1) := z_fwE z_dt0_13 23 rfl
theorem zd0_842 : decode (z_b 0) 842 = .ok (.iadd, 1) := z_fwE z_dt0_13 24 rfl
theorem zd0_843 : decode (z_b 0) 843 = .ok (.iaload, 1) := z_fwE z_dt0_13 25 rfl
theorem zd0_844 : decode (z_b 0) 844 = .ok (.aload_n 0, 1) := z_fwE z_dt0_13 26 rfl
theorem zd0_845 : decode (z_b 0) 845 = .ok (.iload_n 3, 1) := z_fwE z_dt0_13 27 rfl
theorem zd0_846 : decode (z_b 0) 846 = .ok (.iconst 2, 1) := z_fwE z_dt0_13 28 rfl
theorem zd0_847 : decode (z_b 0) 847 = .ok (.iadd, 1) := z_fwE z_dt0_13 29 rfl
theorem zd0_848 : decode (z_b 0) 848 = .ok (.iaload, 1) := z_fwE z_dt0_13 30 rfl
theorem zd0_849 : decode (z_b 0) 849 = .ok (.aload_n 0, 1) := z_fwE z_dt0_13 31 rfl
theorem zd0_850 : decode (z_b 0) 850 = .ok (.iload_n 3, 1) := z_fwE z_dt0_13 32 rfl
theorem zd0_851 : decode (z_b 0) 851 = .ok (.iconst 3, 1) := z_fwE z_dt0_13 33 rfl
theorem zd0_852 : decode (z_b 0) 852 = .ok (.iadd, 1) := z_fwE z_dt0_13 34 rfl
theorem zd0_853 : decode (z_b 0) 853 = .ok (.iaload, 1) := z_fwE z_dt0_13 35 rfl
theorem zd0_854 : decode (z_b 0) 854 = .ok (.invokevirtual 85, 3) := z_fwE z_dt0_13 36 rfl
theorem zd0_857 : decode (z_b 0) 857 = .ok (.pop, 1) := z_fwE z_dt0_13 37 rfl
theorem zd0_858 : decode (z_b 0) 858 = .ok (.goto 916, 3) := z_fwE z_dt0_13 38 rfl
theorem zd0_861 : decode (z_b 0) 861 = .ok (.aload_n 1, 1) := z_fwE z_dt0_13 39 rfl
def z_dl0_14 : List (Nat × Instr × Nat) := [(862, .aload_n 0, 1), (863, .iload_n 3, 1), (864, .iconst 1, 1), (865, .iadd, 1), (866, .iaload, 1), (867, .aload_n 0, 1), (868, .iload_n 3, 1), (869, .iconst 2, 1), (870, .iadd, 1), (871, .iaload, 1), (872, .invokevirtual 86, 3), (875, .pop, 1), (876, .aload_n 2, 1), (877, .aload_n 0, 1), (878, .iload_n 3, 1), (879, .iconst 1, 1), (880, .iadd, 1), (881, .iaload, 1), (882, .aload_n 0, 1), (883, .iload_n 3, 1), (884, .iconst 2, 1), (885, .iadd, 1), (886, .iaload, 1), (887, .invokevirtual 89, 3), (890, .pop, 1), (891, .goto 883, 3), (894, .aload_n 1, 1), (895, .aload_n 0, 1), (896, .iload_n 3, 1), (897, .iconst 1, 1), (898, .iadd, 1), (899, .iaload, 1), (900, .aload_n 0, 1), (901, .iload_n 3, 1), (902, .iconst 2, 1), (903, .iadd, 1), (904, .iaload, 1), (905, .aload_n 0, 1), (906, .iload_n 3, 1), (907, .iconst 3, 1)]
theorem z_dt0_14 : z_fwj 0 862 z_dl0_14 = true := by decide +kernel
theorem zd0_862 : decode (z_b 0) 862 = .ok (.aload_n 0, 1) := z_fwE z_dt0_14 0 rfl
theorem zd0_863 : decode (z_b 0) 863 = .ok (.iload_n 3, 1) := z_fwE z_dt0_14 1 rfl
theorem zd0_864 : decode (z_b 0) 864 = .ok (.iconst 1, 1) := z_fwE z_dt0_14 2 rfl
theorem zd0_865 : decode (z_b 0) 865 = .ok (.iadd, 1) := z_fwE z_dt0_14 3 rfl
theorem zd0_866 : decode (z_b 0) 866 = .ok (.iaload, 1) := z_fwE z_dt0_14 4 rfl
theorem zd0_867 : decode (z_b 0) 867 = .ok (.aload_n 0, 1) := z_fwE z_dt0_14 5 rfl
theorem zd0_868 : decode (z_b 0) 868 = .ok (.iload_n 3, 1) := z_fwE z_dt0_14 6 rfl
theorem zd0_869 : decode (z_b 0) 869 = .ok (.iconst 2, 1) := z_fwE z_dt0_14 7 rfl
theorem zd0_870 : decode (z_b 0) 870 = .ok (.iadd, 1) := z_fwE z_dt0_14 8 rfl
theorem zd0_871 : decode (z_b 0) 871 = .ok (.iaload, 1) := z_fwE z_dt0_14 9 rfl
theorem zd0_872 : decode (z_b 0) 872 = .ok (.invokevirtual 86, 3) := z_fwE z_dt0_14 10 rfl
theorem zd0_875 : decode (z_b 0) 875 = .ok (.pop, 1) := z_fwE z_dt0_14 11 rfl
theorem zd0_876 : decode (z_b 0) 876 = .ok (.aload_n 2, 1) := z_fwE z_dt0_14 12 rfl
theorem zd0_877 : decode (z_b 0) 877 = .ok (.aload_n 0, 1) := z_fwE z_dt0_14 13 rfl
theorem zd0_878 : decode (z_b 0) 878 = .ok (.iload_n 3, 1) := z_fwE z_dt0_14 14 rfl
theorem zd0_879 : decode (z_b 0) 879 = .ok (.iconst 1, 1) := z_fwE z_dt0_14 15 rfl
theorem zd0_880 : decode (z_b 0) 880 = .ok (.iadd, 1) := z_fwE z_dt0_14 16 rfl
theorem zd0_881 : decode (z_b 0) 881 = .ok (.iaload, 1) := z_fwE z_dt0_14 17 rfl
theorem zd0_882 : decode (z_b 0) 882 = .ok (.aload_n 0, 1) := z_fwE z_dt0_14 18 rfl
theorem zd0_883 : decode (z_b 0) 883 = .ok (.iload_n 3, 1) := z_fwE z_dt0_14 19 rfl
theorem zd0_884 : decode (z_b 0) 884 = .ok (.iconst 2, 1) := z_fwE z_dt0_14 20 rfl
theorem zd0_885 : decode (z_b 0) 885 = .ok (.iadd, 1) := z_fwE z_dt0_14 21 rfl
theorem zd0_886 : decode (z_b 0) 886 = .ok (.iaload, 1) := z_fwE z_dt0_14 22 rfl
theorem zd0_887 : decode (z_b 0) 887 = .ok (.invokevirtual 89, 3) := z_fwE z_dt0_14 23 rfl
theorem zd0_890 : decode (z_b 0) 890 = .ok (.pop, 1) := z_fwE z_dt0_14 24 rfl
theorem zd0_891 : decode (z_b 0) 891 = .ok (.goto 883, 3) := z_fwE z_dt0_14 25 rfl
theorem zd0_894 : decode (z_b 0) 894 = .ok (.aload_n 1, 1) := z_fwE z_dt0_14 26 rfl
theorem zd0_895 : decode (z_b 0) 895 = .ok (.aload_n 0, 1) := z_fwE z_dt0_14 27 rfl
theorem zd0_896 : decode (z_b 0) 896 = .ok (.iload_n 3, 1) := z_fwE z_dt0_14 28 rfl
theorem zd0_897 : decode (z_b 0) 897 = .ok (.iconst 1, 1) := z_fwE z_dt0_14 29 rfl
theorem zd0_898 : decode (z_b 0) 898 = .ok (.iadd, 1) := z_fwE z_dt0_14 30 rfl
theorem zd0_899 : decode (z_b 0) 899 = .ok (.iaload, 1) := z_fwE z_dt0_14 31 rfl
theorem zd0_900 : decode (z_b 0) 900 = .ok (.aload_n 0, 1) := z_fwE z_dt0_14 32 rfl
theorem zd0_901 : decode (z_b 0) 901 = .ok (.iload_n 3, 1) := z_fwE z_dt0_14 33 rfl
theorem zd0_902 : decode (z_b 0) 902 = .ok (.iconst 2, 1) := z_fwE z_dt0_14 34 rfl
theorem zd0_903 : decode (z_b 0) 903 = .ok (.iadd, 1) := z_fwE z_dt0_14 35 rfl
theorem zd0_904 : decode (z_b 0) 904 = .ok (.iaload, 1) := z_fwE z_dt0_14 36 rfl
theorem zd0_905 : decode (z_b 0) 905 = .ok (.aload_n 0, 1) := z_fwE z_dt0_14 37 rfl
theorem zd0_906 : decode (z_b 0) 906 = .ok (.iload_n 3, 1) := z_fwE z_dt0_14 38 rfl
theorem zd0_907 : decode (z_b 0) 907 = .ok (.iconst 3, 1) := z_fwE z_dt0_14 39 rfl
def z_dl0_15 : List (Nat × Instr × Nat) := [(908, .iadd, 1), (909, .iaload, 1), (910, .invokevirtual 90, 3), (913, .pop, 1), (914, .aload_n 2, 1), (915, .aload_n 0, 1), (916, .iload_n 3, 1), (917, .iconst 1, 1), (918, .iadd, 1), (919, .iaload, 1), (920, .aload_n 0, 1), (921, .iload_n 3, 1), (922, .iconst 2, 1), (923, .iadd, 1), (924, .iaload, 1), (925, .aload_n 0, 1), (926, .iload_n 3, 1), (927, .iconst 3, 1), (928, .iadd, 1), (929, .iaload, 1), (930, .invokevirtual 93, 3), (933, .pop, 1), (934, .goto 840, 3), (937, .aload_n 1, 1), (938, .aload_n 0, 1), (939, .iload_n 3, 1), (940, .iconst 1, 1), (941, .iadd, 1), (942, .iaload, 1), (943, .aload_n 0, 1), (944, .iload_n 3, 1), (945, .iconst 2, 1), (946, .iadd, 1), (947, .iaload, 1), (948, .invokevirtual 94, 3), (951, .pop, 1), (952, .aload_n 2, 1), (953, .aload_n 0, 1), (954, .iload_n 3, 1), (955, .iconst 1, 1)]
theorem z_dt0_15 : z_fwj 0 908 z_dl0_15 = true := by decide +kernel
theorem zd0_908 : decode (z_b 0) 908 = .ok (.iadd, 1) := z_fwE z_dt0_15 0 rfl
theorem zd0_909 : decode (z_b 0) 909 = .ok (.iaload, 1) := z_fwE z_dt0_15 1 rfl
theorem zd0_910 : decode (z_b 0) 910 = .ok (.invokevirtual 90, 3) := z_fwE z_dt0_15 2 rfl
theorem zd0_913 : decode (z_b 0) 913 = .ok (.pop, 1) := z_fwE z_dt0_15 3 rfl
theorem zd0_914 : decode (z_b 0) 914 = .ok (.aload_n 2, 1) := z_fwE z_dt0_15 4 rfl
theorem zd0_915 : decode (z_b 0) 915 = .ok (.aload_n 0, 1) := z_fwE z_dt0_15 5 rfl
theorem zd0_916 : decode (z_b 0) 916 = .ok (.iload_n 3, 1) := z_fwE z_dt0_15 6 rfl
theorem zd0_917 : decode (z_b 0) 917 = .ok (.iconst 1, 1) := z_fwE z_dt0_15 7 rfl
theorem zd0_918 : decode (z_b 0) 918 = .ok (.iadd, 1) := z_fwE z_dt0_15 8 rfl
theorem zd0_919 : decode (z_b 0) 919 = .ok (.iaload, 1) := z_fwE z_dt0_15 9 rfl
theorem zd0_920 : decode (z_b 0) 920 = .ok (.aload_n 0, 1) := z_fwE z_dt0_15 10 rfl
theorem zd0_921 : decode (z_b 0) 921 = .ok (.iload_n 3, 1) := z_fwE z_dt0_15 11 rfl
theorem zd0_922 : decode (z_b 0) 922 = .ok (.iconst 2, 1) := z_fwE z_dt0_15 12 rfl
theorem zd0_923 : decode (z_b 0) 923 = .ok (.iadd, 1) := z_fwE z_dt0_15 13 rfl
theorem zd0_924 : decode (z_b 0) 924 = .ok (.iaload, 1) := z_fwE z_dt0_15 14 rfl
theorem zd0_925 : decode (z_b 0) 925 = .ok (.aload_n 0, 1) := z_fwE z_dt0_15 15 rfl
theorem zd0_926 : decode (z_b 0) 926 = .ok (.iload_n 3, 1) := z_fwE z_dt0_15 16 rfl
theorem zd0_927 : decode (z_b 0) 927 = .ok (.iconst 3, 1) := z_fwE z_dt0_15 17 rfl
theorem zd0_928 : decode (z_b 0) 928 = .ok (.iadd, 1) := z_fwE z_dt0_15 18 rfl
theorem zd0_929 : decode (z_b 0) 929 = .ok (.iaload, 1) := z_fwE z_dt0_15 19 rfl
theorem zd0_930 : decode (z_b 0) 930 = .ok (.invokevirtual 93, 3) := z_fwE z_dt0_15 20 rfl
theorem zd0_933 : decode (z_b 0) 933 = .ok (.pop, 1) := z_fwE z_dt0_15 21 rfl
theorem zd0_934 : decode (z_b 0) 934 = .ok (.goto 840, 3) := z_fwE z_dt0_15 22 rfl
theorem zd0_937 : decode (z_b 0) 937 = .ok (.aload_n 1, 1) := z_fwE z_dt0_15 23 rfl
theorem zd0_938 : decode (z_b 0) 938 = .ok (.aload_n 0, 1) := z_fwE z_dt0_15 24 rfl
theorem zd0_939 : decode (z_b 0) 939 = .ok (.iload_n 3, 1) := z_fwE z_dt0_15 25 rfl
theorem zd0_940 : decode (z_b 0) 940 = .ok (.iconst 1, 1) := z_fwE z_dt0_15 26 rfl
theorem zd0_941 : decode (z_b 0) 941 = .ok (.iadd, 1) := z_fwE z_dt0_15 27 rfl
theorem zd0_942 : decode (z_b 0) 942 = .ok (.iaload, 1) := z_fwE z_dt0_15 28 rfl
theorem zd0_943 : decode (z_b 0) 943 = .ok (.aload_n 0, 1) := z_fwE z_dt0_15 29 rfl
theorem zd0_944 : decode (z_b 0) 944 = .ok (.iload_n 3, 1) := z_fwE z_dt0_15 30 rfl
theorem zd0_945 : decode (z_b 0) 945 = .ok (.iconst 2, 1) := z_fwE z_dt0_15 31 rfl
theorem zd0_946 : decode (z_b 0) 946 = .ok (.iadd, 1) := z_fwE z_dt0_15 32 rfl
theorem zd0_947 : decode (z_b 0) 947 = .ok (.iaload, 1) := z_fwE z_dt0_15 33 rfl
theorem zd0_948 : decode (z_b 0) 948 = .ok (.invokevirtual 94, 3) := z_fwE z_dt0_15 34 rfl
theorem zd0_951 : decode (z_b 0) 951 = .ok (.pop, 1) := z_fwE z_dt0_15 35 rfl
theorem zd0_952 : decode (z_b 0) 952 = .ok (.aload_n 2, 1) := z_fwE z_dt0_15 36 rfl
theorem zd0_953 : decode (z_b 0) 953 = .ok (.aload_n 0, 1) := z_fwE z_dt0_15 37 rfl
theorem zd0_954 : decode (z_b 0) 954 = .ok (.iload_n 3, 1) := z_fwE z_dt0_15 38 rfl
theorem zd0_955 : decode (z_b 0) 955 = .ok (.iconst 1, 1) := z_fwE z_dt0_15 39 rfl
def z_dl0_16 : List (Nat × Instr × Nat) := [(956, .iadd, 1), (957, .iaload, 1), (958, .aload_n 0, 1), (959, .iload_n 3, 1), (960, .iconst 2, 1), (961, .iadd, 1), (962, .iaload, 1), (963, .invokevirtual 97, 3), (966, .pop, 1), (967, .goto 807, 3), (970, .aload_n 1, 1), (971, .aload_n 0, 1), (972, .iload_n 3, 1), (973, .iconst 1, 1), (974, .iadd, 1), (975, .iaload, 1), (976, .aload_n 0, 1), (977, .iload_n 3, 1), (978, .iconst 2, 1), (979, .iadd, 1), (980, .iaload, 1), (981, .aload_n 0, 1), (982, .iload_n 3, 1), (983, .iconst 3, 1), (984, .iadd, 1), (985, .iaload, 1), (986, .aload_n 0, 1), (987, .iload_n 3, 1), (988, .iconst 4, 1), (989, .iadd, 1), (990, .iaload, 1), (991, .invokevirtual 98, 3), (994, .pop, 1), (995, .aload_n 2, 1), (996, .aload_n 0, 1), (997, .iload_n 3, 1), (998, .iconst 1, 1), (999, .iadd, 1), (1000, .iaload, 1), (1001, .aload_n 0, 1)]
theorem z_dt0_16 : z_fwj 0 956 z_dl0_16 = true := by decide +kernel
theorem zd0_956 : decode (z_b 0) 956 = .ok (.iadd, 1) := z_fwE z_dt0_16 0 rfl
theorem zd0_957 : decode (z_b 0) 957 = .ok (.iaload, 1) := z_fwE z_dt0_16 1 rfl
theorem zd0_958 : decode (z_b 0) 958 = .ok (.aload_n 0, 1) := z_fwE z_dt0_16 2 rfl
theorem zd0_959 : decode (z_b 0) 959 = .ok (.iload_n 3, 1) := z_fwE z_dt0_16 3 rfl
theorem zd0_960 : decode (z_b 0) 960 = .ok (.iconst 2, 1) := z_fwE z_dt0_16 4 rfl
theorem zd0_961 : decode (z_b 0) 961 = .ok (.iadd, 1) := z_fwE z_dt0_16 5 rfl
theorem zd0_962 : decode (z_b 0) 962 = .ok (.iaload, 1) := z_fwE z_dt0_16 6 rfl
theorem zd0_963 : decode (z_b 0) 963 = .ok (.invokevirtual 97, 3) := z_fwE z_dt0_16 7 rfl
theorem zd0_966 : decode (z_b 0) 966 = .ok (.pop, 1) := z_fwE z_dt0_16 8 rfl
theorem zd0_967 : decode (z_b 0) 967 = .ok (.goto 807, 3) := z_fwE z_dt0_16 9 rfl
theorem zd0_970 : decode (z_b 0) 970 = .ok (.aload_n 1, 1) := z_fwE z_dt0_16 10 rfl
theorem zd0_971 : decode (z_b 0) 971 = .ok (.aload_n 0, 1) := z_fwE z_dt0_16 11 rfl
theorem zd0_972 : decode (z_b 0) 972 = .ok (.iload_n 3, 1) := z_fwE z_dt0_16 12 rfl
theorem zd0_973 : decode (z_b 0) 973 = .ok (.iconst 1, 1) := z_fwE z_dt0_16 13 rfl
theorem zd0_974 : decode (z_b 0) 974 = .ok (.iadd, 1) := z_fwE z_dt0_16 14 rfl
theorem zd0_975 : decode (z_b 0) 975 = .ok (.iaload, 1) := z_fwE z_dt0_16 15 rfl
theorem zd0_976 : decode (z_b 0) 976 = .ok (.aload_n 0, 1) := z_fwE z_dt0_16 16 rfl
theorem zd0_977 : decode (z_b 0) 977 = .ok (.iload_n 3, 1) := z_fwE z_dt0_16 17 rfl
theorem zd0_978 : decode (z_b 0) 978 = .ok (.iconst 2, 1) := z_fwE z_dt0_16 18 rfl
theorem zd0_979 : decode (z_b 0) 979 = .ok (.iadd, 1) := z_fwE z_dt0_16 19 rfl
theorem zd0_980 : decode (z_b 0) 980 = .ok (.iaload, 1) := z_fwE z_dt0_16 20 rfl
theorem zd0_981 : decode (z_b 0) 981 = .ok (.aload_n 0, 1) := z_fwE z_dt0_16 21 rfl
theorem zd0_982 : decode (z_b 0) 982 = .ok (.iload_n 3, 1) := z_fwE z_dt0_16 22 rfl
theorem zd0_983 : decode (z_b 0) 983 = .ok (.iconst 3, 1) := z_fwE z_dt0_16 23 rfl
theorem zd0_984 : decode (z_b 0) 984 = .ok (.iadd, 1) := z_fwE z_dt0_16 24 rfl
theorem zd0_985 : decode (z_b 0) 985 = .ok (.iaload, 1) := z_fwE z_dt0_16 25 rfl
theorem zd0_986 : decode (z_b 0) 986 = .ok (.aload_n 0, 1) := z_fwE z_dt0_16 26 rfl
theorem zd0_987 : decode (z_b 0) 987 = .ok (.iload_n 3, 1) := z_fwE z_dt0_16 27 rfl
theorem zd0_988 : decode (z_b 0) 988 = .ok (.iconst 4, 1) := z_fwE z_dt0_16 28 rfl
theorem zd0_989 : decode (z_b 0) 989 = .ok (.iadd, 1) := z_fwE z_dt0_16 29 rfl
theorem zd0_990 : decode (z_b 0) 990 = .ok (.iaload, 1) := z_fwE z_dt0_16 30 rfl
theorem zd0_991 : decode (z_b 0) 991 = .ok (.invokevirtual 98, 3) := z_fwE z_dt0_16 31 rfl
theorem zd0_994 : decode (z_b 0) 994 = .ok (.pop, 1) := z_fwE z_dt0_16 32 rfl
theorem zd0_995 : decode (z_b 0) 995 = .ok (.aload_n 2, 1) := z_fwE z_dt0_16 33 rfl
theorem zd0_996 : decode (z_b 0) 996 = .ok (.aload_n 0, 1) := z_fwE z_dt0_16 34 rfl
theorem zd0_997 : decode (z_b 0) 997 = .ok (.iload_n 3, 1) := z_fwE z_dt0_16 35 rfl
theorem zd0_998 : decode (z_b 0) 998 = .ok (.iconst 1, 1) := z_fwE z_dt0_16 36 rfl
theorem zd0_999 : decode (z_b 0) 999 = .ok (.iadd, 1) := z_fwE z_dt0_16 37 rfl
theorem zd0_1000 : decode (z_b 0) 1000 = .ok (.iaload, 1) := z_fwE z_dt0_16 38 rfl
theorem zd0_1001 : decode (z_b 0) 1001 = .ok (.aload_n 0, 1) := z_fwE z_dt0_16 39 rfl
def z_dl0_17 : List (Nat × Instr × Nat) := [(1002, .iload_n 3, 1), (1003, .iconst 2, 1), (1004, .iadd, 1), (1005, .iaload, 1), (1006, .aload_n 0, 1), (1007, .iload_n 3, 1), (1008, .iconst 3, 1), (1009, .iadd, 1), (1010, .iaload, 1), (1011, .aload_n 0, 1), (1012, .iload_n 3, 1), (1013, .iconst 4, 1), (1014, .iadd, 1), (1015, .iaload, 1), (1016, .invokevirtual 101, 3), (1019, .pop, 1), (1020, .goto 754, 3), (1023, .aload_n 1, 1), (1024, .aload_n 0, 1), (1025, .iload_n 3, 1), (1026, .iconst 1, 1), (1027, .iadd, 1), (1028, .iaload, 1), (1029, .aload_n 0, 1), (1030, .iload_n 3, 1), (1031, .iconst 2, 1), (1032, .iadd, 1), (1033, .iaload, 1), (1034, .aload_n 0, 1), (1035, .iload_n 3, 1), (1036, .iconst 3, 1), (1037, .iadd, 1), (1038, .iaload, 1), (1039, .aload_n 0, 1), (1040, .iload_n 3, 1), (1041, .iconst 4, 1), (1042, .iadd, 1), (1043, .iaload, 1), (1044, .aload_n 0, 1), (1045, .iload_n 3, 1)]
theorem z_dt0_17 : z_fwj 0 1002 z_dl0_17 = true := by decide +kernel
theorem zd0_1002 : decode (z_b 0) 1002 = .ok (.iload_n 3, 1) := z_fwE z_dt0_17 0 rfl
theorem zd0_1003 : decode (z_b 0) 1003 = .ok (.iconst 2, 1) := z_fwE z_dt0_17 1 rfl
theorem zd0_1004 : decode (z_b 0) 1004 = .ok (.iadd, 1) := z_fwE z_dt0_17 2 rfl
theorem zd0_1005 : decode (z_b 0) 1005 = .ok (.iaload, 1) := z_fwE z_dt0_17 3 rfl
theorem zd0_1006 : decode (z_b 0) 1006 = .ok (.aload_n 0, 1) := z_fwE z_dt0_17 4 rfl
theorem zd0_1007 : decode (z_b 0) 1007 = .ok (.iload_n 3, 1) := z_fwE z_dt0_17 5 rfl
theorem zd0_1008 : decode (z_b 0) 1008 = .ok (.iconst 3, 1) := z_fwE z_dt0_17 6 rfl
theorem zd0_1009 : decode (z_b 0) 1009 = .ok (.iadd, 1) := z_fwE z_dt0_17 7 rfl
theorem zd0_1010 : decode (z_b 0) 1010 = .ok (.iaload, 1) := z_fwE z_dt0_17 8 rfl
theorem zd0_1011 : decode (z_b 0) 1011 = .ok (.aload_n 0, 1) := z_fwE z_dt0_17 9 rfl
theorem zd0_1012 : decode (z_b 0) 1012 = .ok (.iload_n 3, 1) := z_fwE z_dt0_17 10 rfl
theorem zd0_1013 : decode (z_b 0) 1013 = .ok (.iconst 4, 1) := z_fwE z_dt0_17 11 rfl
theorem zd0_1014 : decode (z_b 0) 1014 = .ok (.iadd, 1) := z_fwE z_dt0_17 12 rfl
theorem zd0_1015 : decode (z_b 0) 1015 = .ok (.iaload, 1) := z_fwE z_dt0_17 13 rfl
theorem zd0_1016 : decode (z_b 0) 1016 = .ok (.invokevirtual 101, 3) := z_fwE z_dt0_17 14 rfl
theorem zd0_1019 : decode (z_b 0) 1019 = .ok (.pop, 1) := z_fwE z_dt0_17 15 rfl
theorem zd0_1020 : decode (z_b 0) 1020 = .ok (.goto 754, 3) := z_fwE z_dt0_17 16 rfl
theorem zd0_1023 : decode (z_b 0) 1023 = .ok (.aload_n 1, 1) := z_fwE z_dt0_17 17 rfl
theorem zd0_1024 : decode (z_b 0) 1024 = .ok (.aload_n 0, 1) := z_fwE z_dt0_17 18 rfl
theorem zd0_1025 : decode (z_b 0) 1025 = .ok (.iload_n 3, 1) := z_fwE z_dt0_17 19 rfl
theorem zd0_1026 : decode (z_b 0) 1026 = .ok (.iconst 1, 1) := z_fwE z_dt0_17 20 rfl
theorem zd0_1027 : decode (z_b 0) 1027 = .ok (.iadd, 1) := z_fwE z_dt0_17 21 rfl
theorem zd0_1028 : decode (z_b 0) 1028 = .ok (.iaload, 1) := z_fwE z_dt0_17 22 rfl
theorem zd0_1029 : decode (z_b 0) 1029 = .ok (.aload_n 0, 1) := z_fwE z_dt0_17 23 rfl
theorem zd0_1030 : decode (z_b 0) 1030 = .ok (.iload_n 3, 1) := z_fwE z_dt0_17 24 rfl
theorem zd0_1031 : decode (z_b 0) 1031 = .ok (.iconst 2, 1) := z_fwE z_dt0_17 25 rfl
theorem zd0_1032 : decode (z_b 0) 1032 = .ok (.iadd, 1) := z_fwE z_dt0_17 26 rfl
theorem zd0_1033 : decode (z_b 0) 1033 = .ok (.iaload, 1) := z_fwE z_dt0_17 27 rfl
theorem zd0_1034 : decode (z_b 0) 1034 = .ok (.aload_n 0, 1) := z_fwE z_dt0_17 28 rfl
theorem zd0_1035 : decode (z_b 0) 1035 = .ok (.iload_n 3, 1) := z_fwE z_dt0_17 29 rfl
theorem zd0_1036 : decode (z_b 0) 1036 = .ok (.iconst 3, 1) := z_fwE z_dt0_17 30 rfl
theorem zd0_1037 : decode (z_b 0) 1037 = .ok (.iadd, 1) := z_fwE z_dt0_17 31 rfl
theorem zd0_1038 : decode (z_b 0) 1038 = .ok (.iaload, 1) := z_fwE z_dt0_17 32 rfl
theorem zd0_1039 : decode (z_b 0) 1039 = .ok (.aload_n 0, 1) := z_fwE z_dt0_17 33 rfl
theorem zd0_1040 : decode (z_b 0) 1040 = .ok (.iload_n 3, 1) := z_fwE z_dt0_17 34 rfl
theorem zd0_1041 : decode (z_b 0) 1041 = .ok (.iconst 4, 1) := z_fwE z_dt0_17 35 rfl
theorem zd0_1042 : decode (z_b 0) 1042 = .ok (.iadd, 1) := z_fwE z_dt0_17 36 rfl
theorem zd0_1043 : decode (z_b 0) 1043 = .ok (.iaload, 1) := z_fwE z_dt0_17 37 rfl
theorem zd0_1044 : decode (z_b 0) 1044 = .ok (.aload_n 0, 1) := z_fwE z_dt0_17 38 rfl
theorem zd0_1045 : decode (z_b 0) 1045 = .ok (.iload_n 3, 1) := z_fwE z_dt0_17 39 rfl
def z_dl0_18 : List (Nat × Instr × Nat) := [(1046, .iconst 5, 1), (1047, .iadd, 1), (1048, .iaload, 1), (1049, .invokevirtual 102, 3), (1052, .pop, 1), (1053, .aload_n 2, 1), (1054, .aload_n 0, 1), (1055, .iload_n 3, 1), (1056, .iconst 1, 1), (1057, .iadd, 1), (1058, .iaload, 1), (1059, .aload_n 0, 1), (1060, .iload_n 3, 1), (1061, .iconst 2, 1), (1062, .iadd, 1), (1063, .iaload, 1), (1064, .aload_n 0, 1), (1065, .iload_n 3, 1), (1066, .iconst 3, 1), (1067, .iadd, 1), (1068, .iaload, 1), (1069, .aload_n 0, 1), (1070, .iload_n 3, 1), (1071, .iconst 4, 1), (1072, .iadd, 1), (1073, .iaload, 1), (1074, .aload_n 0, 1), (1075, .iload_n 3, 1), (1076, .iconst 5, 1), (1077, .iadd, 1), (1078, .iaload, 1), (1079, .invokevirtual 106, 3), (1082, .pop, 1), (1083, .goto 691, 3), (1086, .aload_n 1, 1), (1087, .aload_n 0, 1), (1088, .iload_n 3, 1), (1089, .iconst 1, 1), (1090, .iadd, 1), (1091, .iaload, 1)]
theorem z_dt0_18 : z_fwj 0 1046 z_dl0_18 = true := by decide +kernel
theorem zd0_1046 : decode (z_b 0) 1046 = .ok (.iconst 5, 1) := z_fwE z_dt0_18 0 rfl
theorem zd0_1047 : decode (z_b 0) 1047 = .ok (.iadd, 1) := z_fwE z_dt0_18 1 rfl
theorem zd0_1048 : decode (z_b 0) 1048 = .ok (.iaload, 1) := z_fwE z_dt0_18 2 rfl
theorem zd0_1049 : decode (z_b 0) 1049 = .ok (.invokevirtual 102, 3) := z_fwE z_dt0_18 3 rfl
theorem zd0_1052 : decode (z_b 0) 1052 = .ok (.pop, 1) := z_fwE z_dt0_18 4 rfl
theorem zd0_1053 : decode (z_b 0) 1053 = .ok (.aload_n 2, 1) := z_fwE z_dt0_18 5 rfl
theorem zd0_1054 : decode (z_b 0) 1054 = .ok (.aload_n 0, 1) := z_fwE z_dt0_18 6 rfl
theorem zd0_1055 : decode (z_b 0) 1055 = .ok (.iload_n 3, 1) := z_fwE z_dt0_18 7 rfl
theorem zd0_1056 : decode (z_b 0) 1056 = .ok (.iconst 1, 1) := z_fwE z_dt0_18 8 rfl
theorem zd0_1057 : decode (z_b 0) 1057 = .ok (.iadd, 1) := z_fwE z_dt0_18 9 rfl
theorem zd0_1058 : decode (z_b 0) 1058 = .ok (.iaload, 1) := z_fwE z_dt0_18 10 rfl
theorem zd0_1059 : decode (z_b 0) 1059 = .ok (.aload_n 0, 1) := z_fwE z_dt0_18 11 rfl
theorem zd0_1060 : decode (z_b 0) 1060 = .ok (.iload_n 3, 1) := z_fwE z_dt0_18 12 rfl
theorem zd0_1061 : decode (z_b 0) 1061 = .ok (.iconst 2, 1) := z_fwE z_dt0_18 13 rfl
theorem zd0_1062 : decode (z_b 0) 1062 = .ok (.iadd, 1) := z_fwE z_dt0_18 14 rfl
theorem zd0_1063 : decode (z_b 0) 1063 = .ok (.iaload, 1) := z_fwE z_dt0_18 15 rfl
theorem zd0_1064 : decode (z_b 0) 1064 = .ok (.aload_n 0, 1) := z_fwE z_dt0_18 16 rfl
theorem zd0_1065 : decode (z_b 0) 1065 = .ok (.iload_n 3, 1) := z_fwE z_dt0_18 17 rfl
theorem zd0_1066 : decode (z_b 0) 1066 = .ok (.iconst 3, 1) := z_fwE z_dt0_18 18 rfl
theorem zd0_1067 : decode (z_b 0) 1067 = .ok (.iadd, 1) := z_fwE z_dt0_18 19 rfl
theorem zd0_1068 : decode (z_b 0) 1068 = .ok (.iaload, 1) := z_fwE z_dt0_18 20 rfl
theorem zd0_1069 : decode (z_b 0) 1069 = .ok (.aload_n 0, 1) := z_fwE z_dt0_18 21 rfl
theorem zd0_1070 : decode (z_b 0) 1070 = .ok (.iload_n 3, 1) := z_fwE z_dt0_18 22 rfl
theorem zd0_1071 : decode (z_b 0) 1071 = .ok (.iconst 4, 1) := z_fwE z_dt0_18 23 rfl
theorem zd0_1072 : decode (z_b 0) 1072 = .ok (.iadd, 1) := z_fwE z_dt0_18 24 rfl
theorem zd0_1073 : decode (z_b 0) 1073 = .ok (.iaload, 1) := z_fwE z_dt0_18 25 rfl
theorem zd0_1074 : decode (z_b 0) 1074 = .ok (.aload_n 0, 1) := z_fwE z_dt0_18 26 rfl
theorem zd0_1075 : decode (z_b 0) 1075 = .ok (.iload_n 3, 1) := z_fwE z_dt0_18 27 rfl
theorem zd0_1076 : decode (z_b 0) 1076 = .ok (.iconst 5, 1) := z_fwE z_dt0_18 28 rfl
theorem zd0_1077 : decode (z_b 0) 1077 = .ok (.iadd, 1) := z_fwE z_dt0_18 29 rfl
theorem zd0_1078 : decode (z_b 0) 1078 = .ok (.iaload, 1) := z_fwE z_dt0_18 30 rfl
theorem zd0_1079 : decode (z_b 0) 1079 = .ok (.invokevirtual 106, 3) := z_fwE z_dt0_18 31 rfl
theorem zd0_1082 : decode (z_b 0) 1082 = .ok (.pop, 1) := z_fwE z_dt0_18 32 rfl
theorem zd0_1083 : decode (z_b 0) 1083 = .ok (.goto 691, 3) := z_fwE z_dt0_18 33 rfl
theorem zd0_1086 : decode (z_b 0) 1086 = .ok (.aload_n 1, 1) := z_fwE z_dt0_18 34 rfl
theorem zd0_1087 : decode (z_b 0) 1087 = .ok (.aload_n 0, 1) := z_fwE z_dt0_18 35 rfl
theorem zd0_1088 : decode (z_b 0) 1088 = .ok (.iload_n 3, 1) := z_fwE z_dt0_18 36 rfl
theorem zd0_1089 : decode (z_b 0) 1089 = .ok (.iconst 1, 1) := z_fwE z_dt0_18 37 rfl
theorem zd0_1090 : decode (z_b 0) 1090 = .ok (.iadd, 1) := z_fwE z_dt0_18 38 rfl
theorem zd0_1091 : decode (z_b 0) 1091 = .ok (.iaload, 1) := z_fwE z_dt0_18 39 rfl
def z_dl0_19 : List (Nat × Instr × Nat) := [(1092, .aload_n 0, 1), (1093, .iload_n 3, 1), (1094, .iconst 2, 1), (1095, .iadd, 1), (1096, .iaload, 1), (1097, .aload_n 0, 1), (1098, .iload_n 3, 1), (1099, .iconst 3, 1), (1100, .iadd, 1), (1101, .iaload, 1), (1102, .aload_n 0, 1), (1103, .iload_n 3, 1), (1104, .iconst 4, 1), (1105, .iadd, 1), (1106, .iaload, 1), (1107, .invokevirtual 107, 3), (1110, .pop, 1), (1111, .aload_n 2, 1), (1112, .aload_n 0, 1), (1113, .iload_n 3, 1), (1114, .iconst 1, 1), (1115, .iadd, 1), (1116, .iaload, 1), (1117, .aload_n 0, 1), (1118, .iload_n 3, 1), (1119, .iconst 2, 1), (1120, .iadd, 1), (1121, .iaload, 1), (1122, .aload_n 0, 1), (1123, .iload_n 3, 1), (1124, .iconst 3, 1), (1125, .iadd, 1), (1126, .iaload, 1), (1127, .aload_n 0, 1), (1128, .iload_n 3, 1), (1129, .iconst 4, 1), (1130, .iadd, 1), (1131, .iaload, 1), (1132, .invokevirtual 110, 3), (1135, .pop, 1)]
theorem z_dt0_19 : z_fwj 0 1092 z_dl0_19 = true := by decide +kernel
theorem zd0_1092 : decode (z_b 0) 1092 = .ok (.aload_n 0, 1) := z_fwE z_dt0_19 0 rfl
theorem zd0_1093 : decode (z_b 0) 1093 = .ok (.iload_n 3, 1) := z_fwE z_dt0_19 1 rfl
theorem zd0_1094 : decode (z_b 0) 1094 = .ok (.iconst 2, 1) := z_fwE z_dt0_19 2 rfl
theorem zd0_1095 : decode (z_b 0) 1095 = .ok (.iadd, 1) := z_fwE z_dt0_19 3 rfl
theorem zd0_1096 : decode (z_b 0) 1096 = .ok (.iaload, 1) := z_fwE z_dt0_19 4 rfl
theorem zd0_1097 : decode (z_b 0) 1097 = .ok (.aload_n 0, 1) := z_fwE z_dt0_19 5 rfl
theorem zd0_1098 : decode (z_b 0) 1098 = .ok (.iload_n 3, 1) := z_fwE z_dt0_19 6 rfl
theorem zd0_1099 : decode (z_b 0) 1099 = .ok (.iconst 3, 1) := z_fwE z_dt0_19 7 rfl
theorem zd0_1100 : decode (z_b 0) 1100 = .ok (.iadd, 1) := z_fwE z_dt0_19 8 rfl
theorem zd0_1101 : decode (z_b 0) 1101 = .ok (.iaload, 1) := z_fwE z_dt0_19 9 rfl
theorem zd0_1102 : decode (z_b 0) 1102 = .ok (.aload_n 0, 1) := z_fwE z_dt0_19 10 rfl
theorem zd0_1103 : decode (z_b 0) 1103 = .ok (.iload_n 3, 1) := z_fwE z_dt0_19 11 rfl
theorem zd0_1104 : decode (z_b 0) 1104 = .ok (.iconst 4, 1) := z_fwE z_dt0_19 12 rfl
theorem zd0_1105 : decode (z_b 0) 1105 = .ok (.iadd, 1) := z_fwE z_dt0_19 13 rfl
theorem zd0_1106 : decode (z_b 0) 1106 = .ok (.iaload, 1) := z_fwE z_dt0_19 14 rfl
theorem zd0_1107 : decode (z_b 0) 1107 = .ok (.invokevirtual 107, 3) := z_fwE z_dt0_19 15 rfl
theorem zd0_1110 : decode (z_b 0) 1110 = .ok (.pop, 1) := z_fwE z_dt0_19 16 rfl
theorem zd0_1111 : decode (z_b 0) 1111 = .ok (.aload_n 2, 1) := z_fwE z_dt0_19 17 rfl
theorem zd0_1112 : decode (z_b 0) 1112 = .ok (.aload_n 0, 1) := z_fwE z_dt0_19 18 rfl
theorem zd0_1113 : decode (z_b 0) 1113 = .ok (.iload_n 3, 1) := z_fwE z_dt0_19 19 rfl
theorem zd0_1114 : decode (z_b 0) 1114 = .ok (.iconst 1, 1) := z_fwE z_dt0_19 20 rfl
theorem zd0_1115 : decode (z_b 0) 1115 = .ok (.iadd, 1) := z_fwE z_dt0_19 21 rfl
theorem zd0_1116 : decode (z_b 0) 1116 = .ok (.iaload, 1) := z_fwE z_dt0_19 22 rfl
theorem zd0_1117 : decode (z_b 0) 1117 = .ok (.aload_n 0, 1) := z_fwE z_dt0_19 23 rfl
theorem zd0_1118 : decode (z_b 0) 1118 = .ok (.iload_n 3, 1) := z_fwE z_dt0_19 24 rfl
theorem zd0_1119 : decode (z_b 0) 1119 = .ok (.iconst 2, 1) := z_fwE z_dt0_19 25 rfl
theorem zd0_1120 : decode (z_b 0) 1120 = .ok (.iadd, 1) := z_fwE z_dt0_19 26 rfl
theorem zd0_1121 : decode (z_b 0) 1121 = .ok (.iaload, 1) := z_fwE z_dt0_19 27 rfl
theorem zd0_1122 : decode (z_b 0) 1122 = .ok (.aload_n 0, 1) := z_fwE z_dt0_19 28 rfl
theorem zd0_1123 : decode (z_b 0) 1123 = .ok (.iload_n 3, 1) := z_fwE z_dt0_19 29 rfl
theorem zd0_1124 : decode (z_b 0) 1124 = .ok (.iconst 3, 1) := z_fwE z_dt0_19 30 rfl
theorem zd0_1125 : decode (z_b 0) 1125 = .ok (.iadd, 1) := z_fwE z_dt0_19 31 rfl
theorem zd0_1126 : decode (z_b 0) 1126 = .ok (.iaload, 1) := z_fwE z_dt0_19 32 rfl
theorem zd0_1127 : decode (z_b 0) 1127 = .ok (.aload_n 0, 1) := z_fwE z_dt0_19 33 rfl
theorem zd0_1128 : decode (z_b 0) 1128 = .ok (.iload_n 3, 1) := z_fwE z_dt0_19 34 rfl
theorem zd0_1129 : decode (z_b 0) 1129 = .ok (.iconst 4, 1) := z_fwE z_dt0_19 35 rfl
theorem zd0_1130 : decode (z_b 0) 1130 = .ok (.iadd, 1) := z_fwE z_dt0_19 36 rfl
theorem zd0_1131 : decode (z_b 0) 1131 = .ok (.iaload, 1) := z_fwE z_dt0_19 37 rfl
theorem zd0_1132 : decode (z_b 0) 1132 = .ok (.invokevirtual 110, 3) := z_fwE z_dt0_19 38 rfl
theorem zd0_1135 : decode (z_b 0) 1135 = .ok (.pop, 1) := z_fwE z_dt0_19 39 rfl
def z_dl0_20 : List (Nat × Instr × Nat) := [(1136, .goto 638, 3), (1139, .aload_n 1, 1), (1140, .aload_n 0, 1), (1141, .iload_n 3, 1), (1142, .iconst 1, 1), (1143, .iadd, 1), (1144, .iaload, 1), (1145, .aload_n 0, 1), (1146, .iload_n 3, 1), (1147, .iconst 2, 1), (1148, .iadd, 1), (1149, .iaload, 1), (1150, .aload_n 0, 1), (1151, .iload_n 3, 1), (1152, .iconst 3, 1), (1153, .iadd, 1), (1154, .iaload, 1), (1155, .invokevirtual 111, 3), (1158, .pop, 1), (1159, .aload_n 2, 1), (1160, .aload_n 0, 1), (1161, .iload_n 3, 1), (1162, .iconst 1, 1), (1163, .iadd, 1), (1164, .iaload, 1), (1165, .aload_n 0, 1), (1166, .iload_n 3, 1), (1167, .iconst 2, 1), (1168, .iadd, 1), (1169, .iaload, 1), (1170, .aload_n 0, 1), (1171, .iload_n 3, 1), (1172, .iconst 3, 1), (1173, .iadd, 1), (1174, .iaload, 1), (1175, .invokevirtual 114, 3), (1178, .pop, 1), (1179, .goto 595, 3), (1182, .aload_n 1, 1), (1183, .aload_n 0, 1)]
theorem z_dt0_20 : z_fwj 0 1136 z_dl0_20 = true := by decide +kernel
theorem zd0_1136 : decode (z_b 0) 1136 = .ok (.goto 638, 3) := z_fwE z_dt0_20 0 rfl
theorem zd0_1139 : decode (z_b 0) 1139 = .ok (.aload_n 1, 1) := z_fwE z_dt0_20 1 rfl
theorem zd0_1140 : decode (z_b 0) 1140 = .ok (.aload_n 0, 1) := z_fwE z_dt0_20 2 rfl
theorem zd0_1141 : decode (z_b 0) 1141 = .ok (.iload_n 3, 1) := z_fwE z_dt0_20 3 rfl
theorem zd0_1142 : decode (z_b 0) 1142 = .ok (.iconst 1, 1) := z_fwE z_dt0_20 4 rfl
theorem zd0_1143 : decode (z_b 0) 1143 = .ok (.iadd, 1) := z_fwE z_dt0_20 5 rfl
theorem zd0_1144 : decode (z_b 0) 1144 = .ok (.iaload, 1) := z_fwE z_dt0_20 6 rfl
theorem zd0_1145 : decode (z_b 0) 1145 = .ok (.aload_n 0, 1) := z_fwE z_dt0_20 7 rfl
theorem zd0_1146 : decode (z_b 0) 1146 = .ok (.iload_n 3, 1) := z_fwE z_dt0_20 8 rfl
theorem zd0_1147 : decode (z_b 0) 1147 = .ok (.iconst 2, 1) := z_fwE z_dt0_20 9 rfl
theorem zd0_1148 : decode (z_b 0) 1148 = .ok (.iadd, 1) := z_fwE z_dt0_20 10 rfl
theorem zd0_1149 : decode (z_b 0) 1149 = .ok (.iaload, 1) := z_fwE z_dt0_20 11 rfl
theorem zd0_1150 : decode (z_b 0) 1150 = .ok (.aload_n 0, 1) := z_fwE z_dt0_20 12 rfl
theorem zd0_1151 : decode (z_b 0) 1151 = .ok (.iload_n 3, 1) := z_fwE z_dt0_20 13 rfl
theorem zd0_1152 : decode (z_b 0) 1152 = .ok (.iconst 3, 1) := z_fwE z_dt0_20 14 rfl
theorem zd0_1153 : decode (z_b 0) 1153 = .ok (.iadd, 1) := z_fwE z_dt0_20 15 rfl
theorem zd0_1154 : decode (z_b 0) 1154 = .ok (.iaload, 1) := z_fwE z_dt0_20 16 rfl
theorem zd0_1155 : decode (z_b 0) 1155 = .ok (.invokevirtual 111, 3) := z_fwE z_dt0_20 17 rfl
theorem zd0_1158 : decode (z_b 0) 1158 = .ok (.pop, 1) := z_fwE z_dt0_20 18 rfl
theorem zd0_1159 : decode (z_b 0) 1159 = .ok (.aload_n 2, 1) := z_fwE z_dt0_20 19 rfl
theorem zd0_1160 : decode (z_b 0) 1160 = .ok (.aload_n 0, 1) := z_fwE z_dt0_20 20 rfl
theorem zd0_1161 : decode (z_b 0) 1161 = .ok (.iload_n 3, 1) := z_fwE z_dt0_20 21 rfl
theorem zd0_1162 : decode (z_b 0) 1162 = .ok (.iconst 1, 1) := z_fwE z_dt0_20 22 rfl
theorem zd0_1163 : decode (z_b 0) 1163 = .ok (.iadd, 1) := z_fwE z_dt0_20 23 rfl
theorem zd0_1164 : decode (z_b 0) 1164 = .ok (.iaload, 1) := z_fwE z_dt0_20 24 rfl
theorem zd0_1165 : decode (z_b 0) 1165 = .ok (.aload_n 0, 1) := z_fwE z_dt0_20 25 rfl
theorem zd0_1166 : decode (z_b 0) 1166 = .ok (.iload_n 3, 1) := z_fwE z_dt0_20 26 rfl
theorem zd0_1167 : decode (z_b 0) 1167 = .ok (.iconst 2, 1) := z_fwE z_dt0_20 27 rfl
theorem zd0_1168 : decode (z_b 0) 1168 = .ok (.iadd, 1) := z_fwE z_dt0_20 28 rfl
theorem zd0_1169 : decode (z_b 0) 1169 = .ok (.iaload, 1) := z_fwE z_dt0_20 29 rfl
theorem zd0_1170 : decode (z_b 0) 1170 = .ok (.aload_n 0, 1) := z_fwE z_dt0_20 30 rfl
theorem zd0_1171 : decode (z_b 0) 1171 = .ok (.iload_n 3, 1) := z_fwE z_dt0_20 31 rfl
theorem zd0_1172 : decode (z_b 0) 1172 = .ok (.iconst 3, 1) := z_fwE z_dt0_20 32 rfl
theorem zd0_1173 : decode (z_b 0) 1173 = .ok (.iadd, 1) := z_fwE z_dt0_20 33 rfl
theorem zd0_1174 : decode (z_b 0) 1174 = .ok (.iaload, 1) := z_fwE z_dt0_20 34 rfl
theorem zd0_1175 : decode (z_b 0) 1175 = .ok (.invokevirtual 114, 3) := z_fwE z_dt0_20 35 rfl
theorem zd0_1178 : decode (z_b 0) 1178 = .ok (.pop, 1) := z_fwE z_dt0_20 36 rfl
theorem zd0_1179 : decode (z_b 0) 1179 = .ok (.goto 595, 3) := z_fwE z_dt0_20 37 rfl
theorem zd0_1182 : decode (z_b 0) 1182 = .ok (.aload_n 1, 1) := z_fwE z_dt0_20 38 rfl
theorem zd0_1183 : decode (z_b 0) 1183 = .ok (.aload_n 0, 1) := z_fwE z_dt0_20 39 rfl
def z_dl0_21 : List (Nat × Instr × Nat) := [(1184, .iload_n 3, 1), (1185, .iconst 1, 1), (1186, .iadd, 1), (1187, .iaload, 1), (1188, .aload_n 0, 1), (1189, .iload_n 3, 1), (1190, .iconst 2, 1), (1191, .iadd, 1), (1192, .iaload, 1), (1193, .aload_n 0, 1), (1194, .iload_n 3, 1), (1195, .iconst 3, 1), (1196, .iadd, 1), (1197, .iaload, 1), (1198, .invokevirtual 115, 3), (1201, .pop, 1), (1202, .aload_n 2, 1), (1203, .aload_n 0, 1), (1204, .iload_n 3, 1), (1205, .iconst 1, 1), (1206, .iadd, 1), (1207, .iaload, 1), (1208, .aload_n 0, 1), (1209, .iload_n 3, 1), (1210, .iconst 2, 1), (1211, .iadd, 1), (1212, .iaload, 1), (1213, .aload_n 0, 1), (1214, .iload_n 3, 1), (1215, .iconst 3, 1), (1216, .iadd, 1), (1217, .iaload, 1), (1218, .invokevirtual 118, 3), (1221, .pop, 1), (1222, .goto 552, 3), (1225, .aload_n 1, 1), (1226, .aload_n 0, 1), (1227, .iload_n 3, 1), (1228, .iconst 1, 1), (1229, .iadd, 1)]
theorem z_dt0_21 : z_fwj 0 1184 z_dl0_21 = true := by decide +kernel
theorem zd0_1184 : decode (z_b 0) 1184 = .ok (.iload_n 3, 1) := z_fwE z_dt0_21 0 rfl
theorem zd0_1185 : decode (z_b 0) 1185 = .ok (.iconst 1, 1) := z_fwE z_dt0_21 1 rfl
theorem zd0_1186 : decode (z_b 0) 1186 = .ok (.iadd, 1) := z_fwE z_dt0_21 2 rfl
theorem zd0_1187 : decode (z_b 0) 1187 = .ok (.iaload, 1) := z_fwE z_dt0_21 3 rfl
theorem zd0_1188 : decode (z_b 0) 1188 = .ok (.aload_n 0, 1) := z_fwE z_dt0_21 4 rfl
theorem zd0_1189 : decode (z_b 0) 1189 = .ok (.iload_n 3, 1) := z_fwE z_dt0_21 5 rfl
theorem zd0_1190 : decode (z_b 0) 1190 = .ok (.iconst 2, 1) := z_fwE z_dt0_21 6 rfl
theorem zd0_1191 : decode (z_b 0) 1191 = .ok (.iadd, 1) := z_fwE z_dt0_21 7 rfl
theorem zd0_1192 : decode (z_b 0) 1192 = .ok (.iaload, 1) := z_fwE z_dt0_21 8 rfl
theorem zd0_1193 : decode (z_b 0) 1193 = .ok (.aload_n 0, 1) := z_fwE z_dt0_21 9 rfl
theorem zd0_1194 : decode (z_b 0) 1194 = .ok (.iload_n 3, 1) := z_fwE z_dt0_21 10 rfl
theorem zd0_1195 : decode (z_b 0) 1195 = .ok (.iconst 3, 1) := z_fwE z_dt0_21 11 rfl
theorem zd0_1196 : decode (z_b 0) 1196 = .ok (.iadd, 1) := z_fwE z_dt0_21 12 rfl
theorem zd0_1197 : decode (z_b 0) 1197 = .ok (.iaload, 1) := z_fwE z_dt0_21 13 rfl
theorem zd0_1198 : decode (z_b 0) 1198 = .ok (.invokevirtual 115, 3) := z_fwE z_dt0_21 14 rfl
theorem zd0_1201 : decode (z_b 0) 1201 = .ok (.pop, 1) := z_fwE z_dt0_21 15 rfl
theorem zd0_1202 : decode (z_b 0) 1202 = .ok (.aload_n 2, 1) := z_fwE z_dt0_21 16 rfl
theorem zd0_1203 : decode (z_b 0) 1203 = .ok (.aload_n 0, 1) := z_fwE z_dt0_21 17 rfl
theorem zd0_1204 : decode (z_b 0) 1204 = .ok (.iload_n 3, 1) := z_fwE z_dt0_21 18 rfl
theorem zd0_1205 : decode (z_b 0) 1205 = .ok (.iconst 1, 1) := z_fwE z_dt0_21 19 rfl
theorem zd0_1206 : decode (z_b 0) 1206 = .ok (.iadd, 1) := z_fwE z_dt0_21 20 rfl
theorem zd0_1207 : decode (z_b 0) 1207 = .ok (.iaload, 1) := z_fwE z_dt0_21 21 rfl
theorem zd0_1208 : decode (z_b 0) 1208 = .ok (.aload_n 0, 1) := z_fwE z_dt0_21 22 rfl
theorem zd0_1209 : decode (z_b 0) 1209 = .ok (.iload_n 3, 1) := z_fwE z_dt0_21 23 rfl
theorem zd0_1210 : decode (z_b 0) 1210 = .ok (.iconst 2, 1) := z_fwE z_dt0_21 24 rfl
theorem zd0_1211 : decode (z_b 0) 1211 = .ok (.iadd, 1) := z_fwE z_dt0_21 25 rfl
theorem zd0_1212 : decode (z_b 0) 1212 = .ok (.iaload, 1) := z_fwE z_dt0_21 26 rfl
theorem zd0_1213 : decode (z_b 0) 1213 = .ok (.aload_n 0, 1) := z_fwE z_dt0_21 27 rfl
theorem zd0_1214 : decode (z_b 0) 1214 = .ok (.iload_n 3, 1) := z_fwE z_dt0_21 28 rfl
theorem zd0_1215 : decode (z_b 0) 1215 = .ok (.iconst 3, 1) := z_fwE z_dt0_21 29 rfl
theorem zd0_1216 : decode (z_b 0) 1216 = .ok (.iadd, 1) := z_fwE z_dt0_21 30 rfl
theorem zd0_1217 : decode (z_b 0) 1217 = .ok (.iaload, 1) := z_fwE z_dt0_21 31 rfl
theorem zd0_1218 : decode (z_b 0) 1218 = .ok (.invokevirtual 118, 3) := z_fwE z_dt0_21 32 rfl
theorem zd0_1221 : decode (z_b 0) 1221 = .ok (.pop, 1) := z_fwE z_dt0_21 33 rfl
theorem zd0_1222 : decode (z_b 0) 1222 = .ok (.goto 552, 3) := z_fwE z_dt0_21 34 rfl
theorem zd0_1225 : decode (z_b 0) 1225 = .ok (.aload_n 1, 1) := z_fwE z_dt0_21 35 rfl
theorem zd0_1226 : decode (z_b 0) 1226 = .ok (.aload_n 0, 1) := z_fwE z_dt0_21 36 rfl
theorem zd0_1227 : decode (z_b 0) 1227 = .ok (.iload_n 3, 1) := z_fwE z_dt0_21 37 rfl
theorem zd0_1228 : decode (z_b 0) 1228 = .ok (.iconst 1, 1) := z_fwE z_dt0_21 38 rfl
theorem zd0_1229 : decode (z_b 0) 1229 = .ok (.iadd, 1) := z_fwE z_dt0_21 39 rfl
def z_dl0_22 : List (Nat × Instr × Nat) := [(1230, .iaload, 1), (1231, .aload_n 0, 1), (1232, .iload_n 3, 1), (1233, .iconst 2, 1), (1234, .iadd, 1), (1235, .iaload, 1), (1236, .aload_n 0, 1), (1237, .iload_n 3, 1), (1238, .iconst 3, 1), (1239, .iadd, 1), (1240, .iaload, 1), (1241, .aload_n 0, 1), (1242, .iload_n 3, 1), (1243, .iconst 4, 1), (1244, .iadd, 1), (1245, .iaload, 1), (1246, .invokevirtual 119, 3), (1249, .pop, 1), (1250, .aload_n 2, 1), (1251, .aload_n 0, 1), (1252, .iload_n 3, 1), (1253, .iconst 1, 1), (1254, .iadd, 1), (1255, .iaload, 1), (1256, .aload_n 0, 1), (1257, .iload_n 3, 1), (1258, .iconst 2, 1), (1259, .iadd, 1), (1260, .iaload, 1), (1261, .aload_n 0, 1), (1262, .iload_n 3, 1), (1263, .iconst 3, 1), (1264, .iadd, 1), (1265, .iaload, 1), (1266, .aload_n 0, 1), (1267, .iload_n 3, 1), (1268, .iconst 4, 1), (1269, .iadd, 1), (1270, .iaload, 1), (1271, .invokevirtual 122, 3)]
theorem z_dt0_22 : z_fwj 0 1230 z_dl0_22 = true := by decide +kernel
theorem zd0_1230 : decode (z_b 0) 1230 = .ok (.iaload, 1) := z_fwE z_dt0_22 0 rfl
theorem zd0_1231 : decode (z_b 0) 1231 = .ok (.aload_n 0, 1) := z_fwE z_dt0_22 1 rfl
theorem zd0_1232 : decode (z_b 0) 1232 = .ok (.iload_n 3, 1) := z_fwE z_dt0_22 2 rfl
theorem zd0_1233 : decode (z_b 0) 1233 = .ok (.iconst 2, 1) := z_fwE z_dt0_22 3 rfl
theorem zd0_1234 : decode (z_b 0) 1234 = .ok (.iadd, 1) := z_fwE z_dt0_22 4 rfl
theorem zd0_1235 : decode (z_b 0) 1235 = .ok (.iaload, 1) := z_fwE z_dt0_22 5 rfl
theorem zd0_1236 : decode (z_b 0) 1236 = .ok (.aload_n 0, 1) := z_fwE z_dt0_22 6 rfl
theorem zd0_1237 : decode (z_b 0) 1237 = .ok (.iload_n 3, 1) := z_fwE z_dt0_22 7 rfl
theorem zd0_1238 : decode (z_b 0) 1238 = .ok (.iconst 3, 1) := z_fwE z_dt0_22 8 rfl
theorem zd0_1239 : decode (z_b 0) 1239 = .ok (.iadd, 1) := z_fwE z_dt0_22 9 rfl
theorem zd0_1240 : decode (z_b 0) 1240 = .ok (.iaload, 1) := z_fwE z_dt0_22 10 rfl
theorem zd0_1241 : decode (z_b 0) 1241 = .ok (.aload_n 0, 1) := z_fwE z_dt0_22 11 rfl
theorem zd0_1242 : decode (z_b 0) 1242 = .ok (.iload_n 3, 1) := z_fwE z_dt0_22 12 rfl
theorem zd0_1243 : decode (z_b 0) 1243 = .ok (.iconst 4, 1) := z_fwE z_dt0_22 13 rfl
theorem zd0_1244 : decode (z_b 0) 1244 = .ok (.iadd, 1) := z_fwE z_dt0_22 14 rfl
theorem zd0_1245 : decode (z_b 0) 1245 = .ok (.iaload, 1) := z_fwE z_dt0_22 15 rfl
theorem zd0_1246 : decode (z_b 0) 1246 = .ok (.invokevirtual 119, 3) := z_fwE z_dt0_22 16 rfl
theorem zd0_1249 : decode (z_b 0) 1249 = .ok (.pop, 1) := z_fwE z_dt0_22 17 rfl
theorem zd0_1250 : decode (z_b 0) 1250 = .ok (.aload_n 2, 1) := z_fwE z_dt0_22 18 rfl
theorem zd0_1251 : decode (z_b 0) 1251 = .ok (.aload_n 0, 1) := z_fwE z_dt0_22 19 rfl
theorem zd0_1252 : decode (z_b 0) 1252 = .ok (.iload_n 3, 1) := z_fwE z_dt0_22 20 rfl
theorem zd0_1253 : decode (z_b 0) 1253 = .ok (.iconst 1, 1) := z_fwE z_dt0_22 21 rfl
theorem zd0_1254 : decode (z_b 0) 1254 = .ok (.iadd, 1) := z_fwE z_dt0_22 22 rfl
theorem zd0_1255 : decode (z_b 0) 1255 = .ok (.iaload, 1) := z_fwE z_dt0_22 23 rfl
theorem zd0_1256 : decode (z_b 0) 1256 = .ok (.aload_n 0, 1) := z_fwE z_dt0_22 24 rfl
theorem zd0_1257 : decode (z_b 0) 1257 = .ok (.iload_n 3, 1) := z_fwE z_dt0_22 25 rfl
theorem zd0_1258 : decode (z_b 0) 1258 = .ok (.iconst 2, 1) := z_fwE z_dt0_22 26 rfl
theorem zd0_1259 : decode (z_b 0) 1259 = .ok (.iadd, 1) := z_fwE z_dt0_22 27 rfl
theorem zd0_1260 : decode (z_b 0) 1260 = .ok (.iaload, 1) := z_fwE z_dt0_22 28 rfl
theorem zd0_1261 : decode (z_b 0) 1261 = .ok (.aload_n 0, 1) := z_fwE z_dt0_22 29 rfl
theorem zd0_1262 : decode (z_b 0) 1262 = .ok (.iload_n 3, 1) := z_fwE z_dt0_22 30 rfl
theorem zd0_1263 : decode (z_b 0) 1263 = .ok (.iconst 3, 1) := z_fwE z_dt0_22 31 rfl
theorem zd0_1264 : decode (z_b 0) 1264 = .ok (.iadd, 1) := z_fwE z_dt0_22 32 rfl
theorem zd0_1265 : decode (z_b 0) 1265 = .ok (.iaload, 1) := z_fwE z_dt0_22 33 rfl
theorem zd0_1266 : decode (z_b 0) 1266 = .ok (.aload_n 0, 1) := z_fwE z_dt0_22 34 rfl
theorem zd0_1267 : decode (z_b 0) 1267 = .ok (.iload_n 3, 1) := z_fwE z_dt0_22 35 rfl
theorem zd0_1268 : decode (z_b 0) 1268 = .ok (.iconst 4, 1) := z_fwE z_dt0_22 36 rfl
theorem zd0_1269 : decode (z_b 0) 1269 = .ok (.iadd, 1) := z_fwE z_dt0_22 37 rfl
theorem zd0_1270 : decode (z_b 0) 1270 = .ok (.iaload, 1) := z_fwE z_dt0_22 38 rfl
theorem zd0_1271 : decode (z_b 0) 1271 = .ok (.invokevirtual 122, 3) := z_fwE z_dt0_22 39 rfl
def z_dl0_23 : List (Nat × Instr × Nat) := [(1274, .pop, 1), (1275, .goto 499, 3), (1278, .aload_n 1, 1), (1279, .aload_n 0, 1), (1280, .iload_n 3, 1), (1281, .iconst 1, 1), (1282, .iadd, 1), (1283, .iaload, 1), (1284, .aload_n 0, 1), (1285, .iload_n 3, 1), (1286, .iconst 2, 1), (1287, .iadd, 1), (1288, .iaload, 1), (1289, .aload_n 0, 1), (1290, .iload_n 3, 1), (1291, .iconst 3, 1), (1292, .iadd, 1), (1293, .iaload, 1), (1294, .invokevirtual 123, 3), (1297, .pop, 1), (1298, .aload_n 2, 1), (1299, .aload_n 0, 1), (1300, .iload_n 3, 1), (1301, .iconst 1, 1), (1302, .iadd, 1), (1303, .iaload, 1), (1304, .aload_n 0, 1), (1305, .iload_n 3, 1), (1306, .iconst 2, 1), (1307, .iadd, 1), (1308, .iaload, 1), (1309, .aload_n 0, 1), (1310, .iload_n 3, 1), (1311, .iconst 3, 1), (1312, .iadd, 1), (1313, .iaload, 1), (1314, .invokevirtual 126, 3), (1317, .pop, 1), (1318, .goto 456, 3), (1321, .aload_n 1, 1)]
theorem z_dt0_23 : z_fwj 0 1274 z_dl0_23 = true := by decide +kernel
theorem zd0_1274 : decode (z_b 0) 1274 = .ok (.pop, 1) := z_fwE z_dt0_23 0 rfl
theorem zd0_1275 : decode (z_b 0) 1275 = .ok (.goto 499, 3) := z_fwE z_dt0_23 1 rfl
theorem zd0_1278 : decode (z_b 0) 1278 = .ok (.aload_n 1, 1) := z_fwE z_dt0_23 2 rfl
theorem zd0_1279 : decode (z_b 0) 1279 = .ok (.aload_n 0, 1) := z_fwE z_dt0_23 3 rfl
theorem zd0_1280 : decode (z_b 0) 1280 = .ok (.iload_n 3, 1) := z_fwE z_dt0_23 4 rfl
theorem zd0_1281 : decode (z_b 0) 1281 = .ok (.iconst 1, 1) := z_fwE z_dt0_23 5 rfl
theorem zd0_1282 : decode (z_b 0) 1282 = .ok (.iadd, 1) := z_fwE z_dt0_23 6 rfl
theorem zd0_1283 : decode (z_b 0) 1283 = .ok (.iaload, 1) := z_fwE z_dt0_23 7 rfl
theorem zd0_1284 : decode (z_b 0) 1284 = .ok (.aload_n 0, 1) := z_fwE z_dt0_23 8 rfl
theorem zd0_1285 : decode (z_b 0) 1285 = .ok (.iload_n 3, 1) := z_fwE z_dt0_23 9 rfl
theorem zd0_1286 : decode (z_b 0) 1286 = .ok (.iconst 2, 1) := z_fwE z_dt0_23 10 rfl
theorem zd0_1287 : decode (z_b 0) 1287 = .ok (.iadd, 1) := z_fwE z_dt0_23 11 rfl
theorem zd0_1288 : decode (z_b 0) 1288 = .ok (.iaload, 1) := z_fwE z_dt0_23 12 rfl
theorem zd0_1289 : decode (z_b 0) 1289 = .ok (.aload_n 0, 1) := z_fwE z_dt0_23 13 rfl
theorem zd0_1290 : decode (z_b 0) 1290 = .ok (.iload_n 3, 1) := z_fwE z_dt0_23 14 rfl
theorem zd0_1291 : decode (z_b 0) 1291 = .ok (.iconst 3, 1) := z_fwE z_dt0_23 15 rfl
theorem zd0_1292 : decode (z_b 0) 1292 = .ok (.iadd, 1) := z_fwE z_dt0_23 16 rfl
theorem zd0_1293 : decode (z_b 0) 1293 = .ok (.iaload, 1) := z_fwE z_dt0_23 17 rfl
theorem zd0_1294 : decode (z_b 0) 1294 = .ok (.invokevirtual 123, 3) := z_fwE z_dt0_23 18 rfl
theorem zd0_1297 : decode (z_b 0) 1297 = .ok (.pop, 1) := z_fwE z_dt0_23 19 rfl
theorem zd0_1298 : decode (z_b 0) 1298 = .ok (.aload_n 2, 1) := z_fwE z_dt0_23 20 rfl
theorem zd0_1299 : decode (z_b 0) 1299 = .ok (.aload_n 0, 1) := z_fwE z_dt0_23 21 rfl
theorem zd0_1300 : decode (z_b 0) 1300 = .ok (.iload_n 3, 1) := z_fwE z_dt0_23 22 rfl
theorem zd0_1301 : decode (z_b 0) 1301 = .ok (.iconst 1, 1) := z_fwE z_dt0_23 23 rfl
theorem zd0_1302 : decode (z_b 0) 1302 = .ok (.iadd, 1) := z_fwE z_dt0_23 24 rfl
theorem zd0_1303 : decode (z_b 0) 1303 = .ok (.iaload, 1) := z_fwE z_dt0_23 25 rfl
theorem zd0_1304 : decode (z_b 0) 1304 = .ok (.aload_n 0, 1) := z_fwE z_dt0_23 26 rfl
theorem zd0_1305 : decode (z_b 0) 1305 = .ok (.iload_n 3, 1) := z_fwE z_dt0_23 27 rfl
theorem zd0_1306 : decode (z_b 0) 1306 = .ok (.iconst 2, 1) := z_fwE z_dt0_23 28 rfl
theorem zd0_1307 : decode (z_b 0) 1307 = .ok (.iadd, 1) := z_fwE z_dt0_23 29 rfl
theorem zd0_1308 : decode (z_b 0) 1308 = .ok (.iaload, 1) := z_fwE z_dt0_23 30 rfl
theorem zd0_1309 : decode (z_b 0) 1309 = .ok (.aload_n 0, 1) := z_fwE z_dt0_23 31 rfl
theorem zd0_1310 : decode (z_b 0) 1310 = .ok (.iload_n 3, 1) := z_fwE z_dt0_23 32 rfl
theorem zd0_1311 : decode (z_b 0) 1311 = .ok (.iconst 3, 1) := z_fwE z_dt0_23 33 rfl
theorem zd0_1312 : decode (z_b 0) 1312 = .ok (.iadd, 1) := z_fwE z_dt0_23 34 rfl
theorem zd0_1313 : decode (z_b 0) 1313 = .ok (.iaload, 1) := z_fwE z_dt0_23 35 rfl
theorem zd0_1314 : decode (z_b 0) 1314 = .ok (.invokevirtual 126, 3) := z_fwE z_dt0_23 36 rfl
theorem zd0_1317 : decode (z_b 0) 1317 = .ok (.pop, 1) := z_fwE z_dt0_23 37 rfl
theorem zd0_1318 : decode (z_b 0) 1318 = .ok (.goto 456, 3) := z_fwE z_dt0_23 38 rfl
theorem zd0_1321 : decode (z_b 0) 1321 = .ok (.aload_n 1, 1) := z_fwE z_dt0_23 39 rfl
def z_dl0_24 : List (Nat × Instr × Nat) := [(1322, .aload_n 0, 1), (1323, .iload_n 3, 1), (1324, .iconst 1, 1), (1325, .iadd, 1), (1326, .iaload, 1), (1327, .aload_n 0, 1), (1328, .iload_n 3, 1), (1329, .iconst 2, 1), (1330, .iadd, 1), (1331, .iaload, 1), (1332, .aload_n 0, 1), (1333, .iload_n 3, 1), (1334, .iconst 3, 1), (1335, .iadd, 1), (1336, .iaload, 1), (1337, .invokevirtual 127, 3), (1340, .pop, 1), (1341, .aload_n 2, 1), (1342, .aload_n 0, 1), (1343, .iload_n 3, 1), (1344, .iconst 1, 1), (1345, .iadd, 1), (1346, .iaload, 1), (1347, .aload_n 0, 1), (1348, .iload_n 3, 1), (1349, .iconst 2, 1), (1350, .iadd, 1), (1351, .iaload, 1), (1352, .aload_n 0, 1), (1353, .iload_n 3, 1), (1354, .iconst 3, 1), (1355, .iadd, 1), (1356, .iaload, 1), (1357, .invokevirtual 130, 3), (1360, .pop, 1), (1361, .goto 413, 3), (1364, .aload_n 1, 1), (1365, .aload_n 0, 1), (1366, .iload_n 3, 1), (1367, .iconst 1, 1)]
theorem z_dt0_24 : z_fwj 0 1322 z_dl0_24 = true := by decide +kernel
theorem zd0_1322 : decode (z_b 0) 1322 = .ok (.aload_n 0, 1) := z_fwE z_dt0_24 0 rfl
theorem zd0_1323 : decode (z_b 0) 1323 = .ok (.iload_n 3, 1) := z_fwE z_dt0_24 1 rfl
theorem zd0_1324 : decode (z_b 0) 1324 = .ok (.iconst 1, 1) := z_fwE z_dt0_24 2 rfl
theorem zd0_1325 : decode (z_b 0) 1325 = .ok (.iadd, 1) := z_fwE z_dt0_24 3 rfl
theorem zd0_1326 : decode (z_b 0) 1326 = .ok (.iaload, 1) := z_fwE z_dt0_24 4 rfl
theorem zd0_1327 : decode (z_b 0) 1327 = .ok (.aload_n 0, 1) := z_fwE z_dt0_24 5 rfl
theorem zd0_1328 : decode (z_b 0) 1328 = .ok (.iload_n 3, 1) := z_fwE z_dt0_24 6 rfl
theorem zd0_1329 : decode (z_b 0) 1329 = .ok (.iconst 2, 1) := z_fwE z_dt0_24 7 rfl
theorem zd0_1330 : decode (z_b 0) 1330 = .ok (.iadd, 1) := z_fwE z_dt0_24 8 rfl
theorem zd0_1331 : decode (z_b 0) 1331 = .ok (.iaload, 1) := z_fwE z_dt0_24 9 rfl
theorem zd0_1332 : decode (z_b 0) 1332 = .ok (.aload_n 0, 1) := z_fwE z_dt0_24 10 rfl
theorem zd0_1333 : decode (z_b 0) 1333 = .ok (.iload_n 3, 1) := z_fwE z_dt0_24 11 rfl
theorem zd0_1334 : decode (z_b 0) 1334 = .ok (.iconst 3, 1) := z_fwE z_dt0_24 12 rfl
theorem zd0_1335 : decode (z_b 0) 1335 = .ok (.iadd, 1) := z_fwE z_dt0_24 13 rfl
theorem zd0_1336 : decode (z_b 0) 1336 = .ok (.iaload, 1) := z_fwE z_dt0_24 14 rfl
theorem zd0_1337 : decode (z_b 0) 1337 = .ok (.invokevirtual 127, 3) := z_fwE z_dt0_24 15 rfl
theorem zd0_1340 : decode (z_b 0) 1340 = .ok (.pop, 1) := z_fwE z_dt0_24 16 rfl
theorem zd0_1341 : decode (z_b 0) 1341 = .ok (.aload_n 2, 1) := z_fwE z_dt0_24 17 rfl
theorem zd0_1342 : decode (z_b 0) 1342 = .ok (.aload_n 0, 1) := z_fwE z_dt0_24 18 rfl
theorem zd0_1343 : decode (z_b 0) 1343 = .ok (.iload_n 3, 1) := z_fwE z_dt0_24 19 rfl
theorem zd0_1344 : decode (z_b 0) 1344 = .ok (.iconst 1, 1) := z_fwE z_dt0_24 20 rfl
theorem zd0_1345 : decode (z_b 0) 1345 = .ok (.iadd, 1) := z_fwE z_dt0_24 21 rfl
theorem zd0_1346 : decode (z_b 0) 1346 = .ok (.iaload, 1) := z_fwE z_dt0_24 22 rfl
theorem zd0_1347 : decode (z_b 0) 1347 = .ok (.aload_n 0, 1) := z_fwE z_dt0_24 23 rfl
theorem zd0_1348 : decode (z_b 0) 1348 = .ok (.iload_n 3, 1) := z_fwE z_dt0_24 24 rfl
theorem zd0_1349 : decode (z_b 0) 1349 = .ok (.iconst 2, 1) := z_fwE z_dt0_24 25 rfl
theorem zd0_1350 : decode (z_b 0) 1350 = .ok (.iadd, 1) := z_fwE z_dt0_24 26 rfl
theorem zd0_1351 : decode (z_b 0) 1351 = .ok (.iaload, 1) := z_fwE z_dt0_24 27 rfl
theorem zd0_1352 : decode (z_b 0) 1352 = .ok (.aload_n 0, 1) := z_fwE z_dt0_24 28 rfl
theorem zd0_1353 : decode (z_b 0) 1353 = .ok (.iload_n 3, 1) := z_fwE z_dt0_24 29 rfl
theorem zd0_1354 : decode (z_b 0) 1354 = .ok (.iconst 3, 1) := z_fwE z_dt0_24 30 rfl
theorem zd0_1355 : decode (z_b 0) 1355 = .ok (.iadd, 1) := z_fwE z_dt0_24 31 rfl
theorem zd0_1356 : decode (z_b 0) 1356 = .ok (.iaload, 1) := z_fwE z_dt0_24 32 rfl
theorem zd0_1357 : decode (z_b 0) 1357 = .ok (.invokevirtual 130, 3) := z_fwE z_dt0_24 33 rfl
theorem zd0_1360 : decode (z_b 0) 1360 = .ok (.pop, 1) := z_fwE z_dt0_24 34 rfl
theorem zd0_1361 : decode (z_b 0) 1361 = .ok (.goto 413, 3) := z_fwE z_dt0_24 35 rfl
theorem zd0_1364 : decode (z_b 0) 1364 = .ok (.aload_n 1, 1) := z_fwE z_dt0_24 36 rfl
theorem zd0_1365 : decode (z_b 0) 1365 = .ok (.aload_n 0, 1) := z_fwE z_dt0_24 37 rfl
theorem zd0_1366 : decode (z_b 0) 1366 = .ok (.iload_n 3, 1) := z_fwE z_dt0_24 38 rfl
theorem zd0_1367 : decode (z_b 0) 1367 = .ok (.iconst 1, 1) := z_fwE z_dt0_24 39 rfl
def z_dl0_25 : List (Nat × Instr × Nat) := [(1368, .iadd, 1), (1369, .iaload, 1), (1370, .aload_n 0, 1), (1371, .iload_n 3, 1), (1372, .iconst 2, 1), (1373, .iadd, 1), (1374, .iaload, 1), (1375, .aload_n 0, 1), (1376, .iload_n 3, 1), (1377, .iconst 3, 1), (1378, .iadd, 1), (1379, .iaload, 1), (1380, .invokevirtual 131, 3), (1383, .aload_n 2, 1), (1384, .aload_n 0, 1), (1385, .iload_n 3, 1), (1386, .iconst 1, 1), (1387, .iadd, 1), (1388, .iaload, 1), (1389, .aload_n 0, 1), (1390, .iload_n 3, 1), (1391, .iconst 2, 1), (1392, .iadd, 1), (1393, .iaload, 1), (1394, .aload_n 0, 1), (1395, .iload_n 3, 1), (1396, .iconst 3, 1), (1397, .iadd, 1), (1398, .iaload, 1), (1399, .invokevirtual 134, 3), (1402, .if_icmp .eq 372, 3)]
theorem z_dt0_25 : z_fwj 0 1368 z_dl0_25 = true := by decide +kernel
theorem zd0_1368 : decode (z_b 0) 1368 = .ok (.iadd, 1) := z_fwE z_dt0_25 0 rfl
theorem zd0_1369 : decode (z_b 0) 1369 = .ok (.iaload, 1) := z_fwE z_dt0_25 1 rfl
theorem zd0_1370 : decode (z_b 0) 1370 = .ok (.aload_n 0, 1) := z_fwE z_dt0_25 2 rfl
theorem zd0_1371 : decode (z_b 0) 1371 = .ok (.iload_n 3, 1) := z_fwE z_dt0_25 3 rfl
theorem zd0_1372 : decode (z_b 0) 1372 = .ok (.iconst 2, 1) := z_fwE z_dt0_25 4 rfl
theorem zd0_1373 : decode (z_b 0) 1373 = .ok (.iadd, 1) := z_fwE z_dt0_25 5 rfl
theorem zd0_1374 : decode (z_b 0) 1374 = .ok (.iaload, 1) := z_fwE z_dt0_25 6 rfl
theorem zd0_1375 : decode (z_b 0) 1375 = .ok (.aload_n 0, 1) := z_fwE z_dt0_25 7 rfl
theorem zd0_1376 : decode (z_b 0) 1376 = .ok (.iload_n 3, 1) := z_fwE z_dt0_25 8 rfl
theorem zd0_1377 : decode (z_b 0) 1377 = .ok (.iconst 3, 1) := z_fwE z_dt0_25 9 rfl
theorem zd0_1378 : decode (z_b 0) 1378 = .ok (.iadd, 1) := z_fwE z_dt0_25 10 rfl
theorem zd0_1379 : decode (z_b 0) 1379 = .ok (.iaload, 1) := z_fwE z_dt0_25 11 rfl
theorem zd0_1380 : decode (z_b 0) 1380 = .ok (.invokevirtual 131, 3) := z_fwE z_dt0_25 12 rfl
theorem zd0_1383 : decode (z_b 0) 1383 = .ok (.aload_n 2, 1) := z_fwE z_dt0_25 13 rfl
theorem zd0_1384 : decode (z_b 0) 1384 = .ok (.aload_n 0, 1) := z_fwE z_dt0_25 14 rfl
theorem zd0_1385 : decode (z_b 0) 1385 = .ok (.iload_n 3, 1) := z_fwE z_dt0_25 15 rfl
theorem zd0_1386 : decode (z_b 0) 1386 = .ok (.iconst 1, 1) := z_fwE z_dt0_25 16 rfl
theorem zd0_1387 : decode (z_b 0) 1387 = .ok (.iadd, 1) := z_fwE z_dt0_25 17 rfl
theorem zd0_1388 : decode (z_b 0) 1388 = .ok (.iaload, 1) := z_fwE z_dt0_25 18 rfl
theorem zd0_1389 : decode (z_b 0) 1389 = .ok (.aload_n 0, 1) := z_fwE z_dt0_25 19 rfl
theorem zd0_1390 : decode (z_b 0) 1390 = .ok (.iload_n 3, 1) := z_fwE z_dt0_25 20 rfl
theorem zd0_1391 : decode (z_b 0) 1391 = .ok (.iconst 2, 1) := z_fwE z_dt0_25 21 rfl
theorem zd0_1392 : decode (z_b 0) 1392 = .ok (.iadd, 1) := z_fwE z_dt0_25 22 rfl
theorem zd0_1393 : decode (z_b 0) 1393 = .ok (.iaload, 1) := z_fwE z_dt0_25 23 rfl
theorem zd0_1394 : decode (z_b 0) 1394 = .ok (.aload_n 0, 1) := z_fwE z_dt0_25 24 rfl
theorem zd0_1395 : decode (z_b 0) 1395 = .ok (.iload_n 3, 1) := z_fwE z_dt0_25 25 rfl
theorem zd0_1396 : decode (z_b 0) 1396 = .ok (.iconst 3, 1) := z_fwE z_dt0_25 26 rfl
theorem zd0_1397 : decode (z_b 0) 1397 = .ok (.iadd, 1) := z_fwE z_dt0_25 27 rfl
theorem zd0_1398 : decode (z_b 0) 1398 = .ok (.iaload, 1) := z_fwE z_dt0_25 28 rfl
theorem zd0_1399 : decode (z_b 0) 1399 = .ok (.invokevirtual 134, 3) := z_fwE z_dt0_25 29 rfl
theorem zd0_1402 : decode (z_b 0) 1402 = .ok (.if_icmp .eq 372, 3) := z_fwE z_dt0_25 30 rfl
def z_dl0_26 : List (Nat × Instr × Nat) := [(1407, .aload_n 1, 1), (1408, .aload_n 0, 1), (1409, .iload_n 3, 1), (1410, .iconst 1, 1), (1411, .iadd, 1), (1412, .iaload, 1), (1413, .aload_n 0, 1), (1414, .iload_n 3, 1), (1415, .iconst 2, 1), (1416, .iadd, 1), (1417, .iaload, 1), (1418, .aload_n 0, 1), (1419, .iload_n 3, 1), (1420, .iconst 3, 1), (1421, .iadd, 1), (1422, .iaload, 1), (1423, .invokevirtual 135, 3), (1426, .pop, 1), (1427, .aload_n 2, 1), (1428, .aload_n 0, 1), (1429, .iload_n 3, 1), (1430, .iconst 1, 1), (1431, .iadd, 1), (1432, .iaload, 1), (1433, .aload_n 0, 1), (1434, .iload_n 3, 1), (1435, .iconst 2, 1), (1436, .iadd, 1), (1437, .iaload, 1), (1438, .aload_n 0, 1), (1439, .iload_n 3, 1), (1440, .iconst 3, 1), (1441, .iadd, 1), (1442, .iaload, 1), (1443, .invokevirtual 138, 3), (1446, .pop, 1), (1447, .goto 327, 3), (1450, .aload_n 1, 1), (1451, .aload_n 0, 1), (1452, .iload_n 3, 1)]
theorem z_dt0_26 : z_fwj 0 1407 z_dl0_26 = true := by decide +kernel
theorem zd0_1407 : decode (z_b 0) 1407 = .ok (.aload_n 1, 1) := z_fwE z_dt0_26 0 rfl
theorem zd0_1408 : decode (z_b 0) 1408 = .ok (.aload_n 0, 1) := z_fwE z_dt0_26 1 rfl
theorem zd0_1409 : decode (z_b 0) 1409 = .ok (.iload_n 3, 1) := z_fwE z_dt0_26 2 rfl
theorem zd0_1410 : decode (z_b 0) 1410 = .ok (.iconst 1, 1) := z_fwE z_dt0_26 3 rfl
theorem zd0_1411 : decode (z_b 0) 1411 = .ok (.iadd, 1) := z_fwE z_dt0_26 4 rfl
theorem zd0_1412 : decode (z_b 0) 1412 = .ok (.iaload, 1) := z_fwE z_dt0_26 5 rfl
theorem zd0_1413 : decode (z_b 0) 1413 = .ok (.aload_n 0, 1) := z_fwE z_dt0_26 6 rfl
theorem zd0_1414 : decode (z_b 0) 1414 = .ok (.iload_n 3, 1) := z_fwE z_dt0_26 7 rfl
theorem zd0_1415 : decode (z_b 0) 1415 = .ok (.iconst 2, 1) := z_fwE z_dt0_26 8 rfl
theorem zd0_1416 : decode (z_b 0) 1416 = .ok (.iadd, 1) := z_fwE z_dt0_26 9 rfl
theorem zd0_1417 : decode (z_b 0) 1417 = .ok (.iaload, 1) := z_fwE z_dt0_26 10 rfl
theorem zd0_1418 : decode (z_b 0) 1418 = .ok (.aload_n 0, 1) := z_fwE z_dt0_26 11 rfl
theorem zd0_1419 : decode (z_b 0) 1419 = .ok (.iload_n 3, 1) := z_fwE z_dt0_26 12 rfl
theorem zd0_1420 : decode (z_b 0) 1420 = .ok (.iconst 3, 1) := z_fwE z_dt0_26 13 rfl
theorem zd0_1421 : decode (z_b 0) 1421 = .ok (.iadd, 1) := z_fwE z_dt0_26 14 rfl
theorem zd0_1422 : decode (z_b 0) 1422 = .ok (.iaload, 1) := z_fwE z_dt0_26 15 rfl
theorem zd0_1423 : decode (z_b 0) 1423 = .ok (.invokevirtual 135, 3) := z_fwE z_dt0_26 16 rfl
theorem zd0_1426 : decode (z_b 0) 1426 = .ok (.pop, 1) := z_fwE z_dt0_26 17 rfl
theorem zd0_1427 : decode (z_b 0) 1427 = .ok (.aload_n 2, 1) := z_fwE z_dt0_26 18 rfl
theorem zd0_1428 : decode (z_b 0) 1428 = .ok (.aload_n 0, 1) := z_fwE z_dt0_26 19 rfl
theorem zd0_1429 : decode (z_b 0) 1429 = .ok (.iload_n 3, 1) := z_fwE z_dt0_26 20 rfl
theorem zd0_1430 : decode (z_b 0) 1430 = .ok (.iconst 1, 1) := z_fwE z_dt0_26 21 rfl
theorem zd0_1431 : decode (z_b 0) 1431 = .ok (.iadd, 1) := z_fwE z_dt0_26 22 rfl
theorem zd0_1432 : decode (z_b 0) 1432 = .ok (.iaload, 1) := z_fwE z_dt0_26 23 rfl
theorem zd0_1433 : decode (z_b 0) 1433 = .ok (.aload_n 0, 1) := z_fwE z_dt0_26 24 rfl
theorem zd0_1434 : decode (z_b 0) 1434 = .ok (.iload_n 3, 1) := z_fwE z_dt0_26 25 rfl
theorem zd0_1435 : decode (z_b 0) 1435 = .ok (.iconst 2, 1) := z_fwE z_dt0_26 26 rfl
theorem zd0_1436 : decode (z_b 0) 1436 = .ok (.iadd, 1) := z_fwE z_dt0_26 27 rfl
theorem zd0_1437 : decode (z_b 0) 1437 = .ok (.iaload, 1) := z_fwE z_dt0_26 28 rfl
theorem zd0_1438 : decode (z_b 0) 1438 = .ok (.aload_n 0, 1) := z_fwE z_dt0_26 29 rfl
theorem zd0_1439 : decode (z_b 0) 1439 = .ok (.iload_n 3, 1) := z_fwE z_dt0_26 30 rfl
theorem zd0_1440 : decode (z_b 0) 1440 = .ok (.iconst 3, 1) := z_fwE z_dt0_26 31 rfl
theorem zd0_1441 : decode (z_b 0) 1441 = .ok (.iadd, 1) := z_fwE z_dt0_26 32 rfl
theorem zd0_1442 : decode (z_b 0) 1442 = .ok (.iaload, 1) := z_fwE z_dt0_26 33 rfl
theorem zd0_1443 : decode (z_b 0) 1443 = .ok (.invokevirtual 138, 3) := z_fwE z_dt0_26 34 rfl
theorem zd0_1446 : decode (z_b 0) 1446 = .ok (.pop, 1) := z_fwE z_dt0_26 35 rfl
theorem zd0_1447 : decode (z_b 0) 1447 = .ok (.goto 327, 3) := z_fwE z_dt0_26 36 rfl
theorem zd0_1450 : decode (z_b 0) 1450 = .ok (.aload_n 1, 1) := z_fwE z_dt0_26 37 rfl
theorem zd0_1451 : decode (z_b 0) 1451 = .ok (.aload_n 0, 1) := z_fwE z_dt0_26 38 rfl
theorem zd0_1452 : decode (z_b 0) 1452 = .ok (.iload_n 3, 1) := z_fwE z_dt0_26 39 rfl
def z_dl0_27 : List (Nat × Instr × Nat) := [(1453, .iconst 1, 1), (1454, .iadd, 1), (1455, .iaload, 1), (1456, .invokevirtual 139, 3), (1459, .pop, 1), (1460, .aload_n 2, 1), (1461, .aload_n 0, 1), (1462, .iload_n 3, 1), (1463, .iconst 1, 1), (1464, .iadd, 1), (1465, .iaload, 1), (1466, .invokevirtual 142, 3), (1469, .pop, 1), (1470, .goto 304, 3), (1473, .aload_n 1, 1), (1474, .aload_n 0, 1), (1475, .iload_n 3, 1), (1476, .iconst 1, 1), (1477, .iadd, 1), (1478, .iaload, 1), (1479, .aload_n 0, 1), (1480, .iload_n 3, 1), (1481, .iconst 2, 1), (1482, .iadd, 1), (1483, .iaload, 1), (1484, .invokevirtual 143, 3), (1487, .pop, 1), (1488, .aload_n 2, 1), (1489, .aload_n 0, 1), (1490, .iload_n 3, 1), (1491, .iconst 1, 1), (1492, .iadd, 1), (1493, .iaload, 1), (1494, .aload_n 0, 1), (1495, .iload_n 3, 1), (1496, .iconst 2, 1), (1497, .iadd, 1), (1498, .iaload, 1), (1499, .invokevirtual 146, 3), (1502, .pop, 1)]
theorem z_dt0_27 : z_fwj 0 1453 z_dl0_27 = true := by decide +kernel
theorem zd0_1453 : decode (z_b 0) 1453 = .ok (.iconst 1, 1) := z_fwE z_dt0_27 0 rfl
theorem zd0_1454 : decode (z_b 0) 1454 = .ok (.iadd, 1) := z_fwE z_dt0_27 1 rfl
theorem zd0_1455 : decode (z_b 0) 1455 = .ok (.iaload, 1) := z_fwE z_dt0_27 2 rfl
theorem zd0_1456 : decode (z_b 0) 1456 = .ok (.invokevirtual 139, 3) := z_fwE z_dt0_27 3 rfl
theorem zd0_1459 : decode (z_b 0) 1459 = .ok (.pop, 1) := z_fwE z_dt0_27 4 rfl
theorem zd0_1460 : decode (z_b 0) 1460 = .ok (.aload_n 2, 1) := z_fwE z_dt0_27 5 rfl
theorem zd0_1461 : decode (z_b 0) 1461 = .ok (.aload_n 0, 1) := z_fwE z_dt0_27 6 rfl
theorem zd0_1462 : decode (z_b 0) 1462 = .ok (.iload_n 3, 1) := z_fwE z_dt0_27 7 rfl
theorem zd0_1463 : decode (z_b 0) 1463 = .ok (.iconst 1, 1) := z_fwE z_dt0_27 8 rfl
theorem zd0_1464 : decode (z_b 0) 1464 = .ok (.iadd, 1) := z_fwE z_dt0_27 9 rfl
theorem zd0_1465 : decode (z_b 0) 1465 = .ok (.iaload, 1) := z_fwE z_dt0_27 10 rfl
theorem zd0_1466 : decode (z_b 0) 1466 = .ok (.invokevirtual 142, 3) := z_fwE z_dt0_27 11 rfl
theorem zd0_1469 : decode (z_b 0) 1469 = .ok (.pop, 1) := z_fwE z_dt0_27 12 rfl
theorem zd0_1470 : decode (z_b 0) 1470 = .ok (.goto 304, 3) := z_fwE z_dt0_27 13 rfl
theorem zd0_1473 : decode (z_b 0) 1473 = .ok (.aload_n 1, 1) := z_fwE z_dt0_27 14 rfl
theorem zd0_1474 : decode (z_b 0) 1474 = .ok (.aload_n 0, 1) := z_fwE z_dt0_27 15 rfl
theorem zd0_1475 : decode (z_b 0) 1475 = .ok (.iload_n 3, 1) := z_fwE z_dt0_27 16 rfl
theorem zd0_1476 : decode (z_b 0) 1476 = .ok (.iconst 1, 1) := z_fwE z_dt0_27 17 rfl
theorem zd0_1477 : decode (z_b 0) 1477 = .ok (.iadd, 1) := z_fwE z_dt0_27 18 rfl
theorem zd0_1478 : decode (z_b 0) 1478 = .ok (.iaload, 1) := z_fwE z_dt0_27 19 rfl
theorem zd0_1479 : decode (z_b 0) 1479 = .ok (.aload_n 0, 1) := z_fwE z_dt0_27 20 rfl
theorem zd0_1480 : decode (z_b 0) 1480 = .ok (.iload_n 3, 1) := z_fwE z_dt0_27 21 rfl
theorem zd0_1481 : decode (z_b 0) 1481 = .ok (.iconst 2, 1) := z_fwE z_dt0_27 22 rfl
theorem zd0_1482 : decode (z_b 0) 1482 = .ok (.iadd, 1) := z_fwE z_dt0_27 23 rfl
theorem zd0_1483 : decode (z_b 0) 1483 = .ok (.iaload, 1) := z_fwE z_dt0_27 24 rfl
theorem zd0_1484 : decode (z_b 0) 1484 = .ok (.invokevirtual 143, 3) := z_fwE z_dt0_27 25 rfl
theorem zd0_1487 : decode (z_b 0) 1487 = .ok (.pop, 1) := z_fwE z_dt0_27 26 rfl
theorem zd0_1488 : decode (z_b 0) 1488 = .ok (.aload_n 2, 1) := z_fwE z_dt0_27 27 rfl
theorem zd0_1489 : decode (z_b 0) 1489 = .ok (.aload_n 0, 1) := z_fwE z_dt0_27 28 rfl
theorem zd0_1490 : decode (z_b 0) 1490 = .ok (.iload_n 3, 1) := z_fwE z_dt0_27 29 rfl
theorem zd0_1491 : decode (z_b 0) 1491 = .ok (.iconst 1, 1) := z_fwE z_dt0_27 30 rfl
theorem zd0_1492 : decode (z_b 0) 1492 = .ok (.iadd, 1) := z_fwE z_dt0_27 31 rfl
theorem zd0_1493 : decode (z_b 0) 1493 = .ok (.iaload, 1) := z_fwE z_dt0_27 32 rfl
theorem zd0_1494 : decode (z_b 0) 1494 = .ok (.aload_n 0, 1) := z_fwE z_dt0_27 33 rfl
theorem zd0_1495 : decode (z_b 0) 1495 = .ok (.iload_n 3, 1) := z_fwE z_dt0_27 34 rfl
theorem zd0_1496 : decode (z_b 0) 1496 = .ok (.iconst 2, 1) := z_fwE z_dt0_27 35 rfl
theorem zd0_1497 : decode (z_b 0) 1497 = .ok (.iadd, 1) := z_fwE z_dt0_27 36 rfl
theorem zd0_1498 : decode (z_b 0) 1498 = .ok (.iaload, 1) := z_fwE z_dt0_27 37 rfl
theorem zd0_1499 : decode (z_b 0) 1499 = .ok (.invokevirtual 146, 3) := z_fwE z_dt0_27 38 rfl
theorem zd0_1502 : decode (z_b 0) 1502 = .ok (.pop, 1) := z_fwE z_dt0_27 39 rfl
def z_dl0_28 : List (Nat × Instr × Nat) := [(1503, .goto 271, 3), (1506, .aload_n 1, 1), (1507, .aload_n 0, 1), (1508, .iload_n 3, 1), (1509, .iconst 1, 1), (1510, .iadd, 1), (1511, .iaload, 1), (1512, .aload_n 0, 1), (1513, .iload_n 3, 1), (1514, .iconst 2, 1), (1515, .iadd, 1), (1516, .iaload, 1), (1517, .aload_n 0, 1), (1518, .iload_n 3, 1), (1519, .iconst 3, 1), (1520, .iadd, 1), (1521, .iaload, 1), (1522, .invokevirtual 147, 3), (1525, .pop, 1), (1526, .aload_n 2, 1), (1527, .aload_n 0, 1), (1528, .iload_n 3, 1), (1529, .iconst 1, 1), (1530, .iadd, 1), (1531, .iaload, 1), (1532, .aload_n 0, 1), (1533, .iload_n 3, 1), (1534, .iconst 2, 1), (1535, .iadd, 1), (1536, .iaload, 1), (1537, .aload_n 0, 1), (1538, .iload_n 3, 1), (1539, .iconst 3, 1), (1540, .iadd, 1), (1541, .iaload, 1), (1542, .invokevirtual 150, 3), (1545, .pop, 1), (1546, .goto 228, 3), (1549, .aload_n 1, 1), (1550, .aload_n 0, 1)]
theorem z_dt0_28 : z_fwj 0 1503 z_dl0_28 = true := by decide +kernel
theorem zd0_1503 : decode (z_b 0) 1503 = .ok (.goto 271, 3) := z_fwE z_dt0_28 0 rfl
theorem zd0_1506 : decode (z_b 0) 1506 = .ok (.aload_n 1, 1) := z_fwE z_dt0_28 1 rfl
theorem zd0_1507 : decode (z_b 0) 1507 = .ok (.aload_n 0, 1) := z_fwE z_dt0_28 2 rfl
theorem zd0_1508 : decode (z_b 0) 1508 = .ok (.iload_n 3, 1) := z_fwE z_dt0_28 3 rfl
theorem zd0_1509 : decode (z_b 0) 1509 = .ok (.iconst 1, 1) := z_fwE z_dt0_28 4 rfl
theorem zd0_1510 : decode (z_b 0) 1510 = .ok (.iadd, 1) := z_fwE z_dt0_28 5 rfl
theorem zd0_1511 : decode (z_b 0) 1511 = .ok (.iaload, 1) := z_fwE z_dt0_28 6 rfl
theorem zd0_1512 : decode (z_b 0) 1512 = .ok (.aload_n 0, 1) := z_fwE z_dt0_28 7 rfl
theorem zd0_1513 : decode (z_b 0) 1513 = .ok (.iload_n 3, 1) := z_fwE z_dt0_28 8 rfl
theorem zd0_1514 : decode (z_b 0) 1514 = .ok (.iconst 2, 1) := z_fwE z_dt0_28 9 rfl
theorem zd0_1515 : decode (z_b 0) 1515 = .ok (.iadd, 1) := z_fwE z_dt0_28 10 rfl
theorem zd0_1516 : decode (z_b 0) 1516 = .ok (.iaload, 1) := z_fwE z_dt0_28 11 rfl
theorem zd0_1517 : decode (z_b 0) 1517 = .ok (.aload_n 0, 1) := z_fwE z_dt0_28 12 rfl
theorem zd0_1518 : decode (z_b 0) 1518 = .ok (.iload_n 3, 1) := z_fwE z_dt0_28 13 rfl
theorem zd0_1519 : decode (z_b 0) 1519 = .ok (.iconst 3, 1) := z_fwE z_dt0_28 14 rfl
theorem zd0_1520 : decode (z_b 0) 1520 = .ok (.iadd, 1) := z_fwE z_dt0_28 15 rfl
theorem zd0_1521 : decode (z_b 0) 1521 = .ok (.iaload, 1) := z_fwE z_dt0_28 16 rfl
theorem zd0_1522 : decode (z_b 0) 1522 = .ok (.invokevirtual 147, 3) := z_fwE z_dt0_28 17 rfl
theorem zd0_1525 : decode (z_b 0) 1525 = .ok (.pop, 1) := z_fwE z_dt0_28 18 rfl
theorem zd0_1526 : decode (z_b 0) 1526 = .ok (.aload_n 2, 1) := z_fwE z_dt0_28 19 rfl
theorem zd0_1527 : decode (z_b 0) 1527 = .ok (.aload_n 0, 1) := z_fwE z_dt0_28 20 rfl
theorem zd0_1528 : decode (z_b 0) 1528 = .ok (.iload_n 3, 1) := z_fwE z_dt0_28 21 rfl
theorem zd0_1529 : decode (z_b 0) 1529 = .ok (.iconst 1, 1) := z_fwE z_dt0_28 22 rfl
theorem zd0_1530 : decode (z_b 0) 1530 = .ok (.iadd, 1) := z_fwE z_dt0_28 23 rfl
theorem zd0_1531 : decode (z_b 0) 1531 = .ok (.iaload, 1) := z_fwE z_dt0_28 24 rfl
theorem zd0_1532 : decode (z_b 0) 1532 = .ok (.aload_n 0, 1) := z_fwE z_dt0_28 25 rfl
theorem zd0_1533 : decode (z_b 0) 1533 = .ok (.iload_n 3, 1) := z_fwE z_dt0_28 26 rfl
theorem zd0_1534 : decode (z_b 0) 1534 = .ok (.iconst 2, 1) := z_fwE z_dt0_28 27 rfl
theorem zd0_1535 : decode (z_b 0) 1535 = .ok (.iadd, 1) := z_fwE z_dt0_28 28 rfl
theorem zd0_1536 : decode (z_b 0) 1536 = .ok (.iaload, 1) := z_fwE z_dt0_28 29 rfl
theorem zd0_1537 : decode (z_b 0) 1537 = .ok (.aload_n 0, 1) := z_fwE z_dt0_28 30 rfl
theorem zd0_1538 : decode (z_b 0) 1538 = .ok (.iload_n 3, 1) := z_fwE z_dt0_28 31 rfl
theorem zd0_1539 : decode (z_b 0) 1539 = .ok (.iconst 3, 1) := z_fwE z_dt0_28 32 rfl
theorem zd0_1540 : decode (z_b 0) 1540 = .ok (.iadd, 1) := z_fwE z_dt0_28 33 rfl
theorem zd0_1541 : decode (z_b 0) 1541 = .ok (.iaload, 1) := z_fwE z_dt0_28 34 rfl
theorem zd0_1542 : decode (z_b 0) 1542 = .ok (.invokevirtual 150, 3) := z_fwE z_dt0_28 35 rfl
theorem zd0_1545 : decode (z_b 0) 1545 = .ok (.pop, 1) := z_fwE z_dt0_28 36 rfl
theorem zd0_1546 : decode (z_b 0) 1546 = .ok (.goto 228, 3) := z_fwE z_dt0_28 37 rfl
theorem zd0_1549 : decode (z_b 0) 1549 = .ok (.aload_n 1, 1) := z_fwE z_dt0_28 38 rfl
theorem zd0_1550 : decode (z_b 0) 1550 = .ok (.aload_n 0, 1) := z_fwE z_dt0_28 39 rfl
def z_dl0_29 : List (Nat × Instr × Nat) := [(1551, .iload_n 3, 1), (1552, .iconst 1, 1), (1553, .iadd, 1), (1554, .iaload, 1), (1555, .aload_n 0, 1), (1556, .iload_n 3, 1), (1557, .iconst 2, 1), (1558, .iadd, 1), (1559, .iaload, 1), (1560, .aload_n 0, 1), (1561, .iload_n 3, 1), (1562, .iconst 3, 1), (1563, .iadd, 1), (1564, .iaload, 1), (1565, .i2l, 1), (1566, .bipush 32, 2), (1568, .lshl, 1), (1569, .aload_n 0, 1), (1570, .iload_n 3, 1), (1571, .iconst 4, 1), (1572, .iadd, 1), (1573, .iaload, 1), (1574, .i2l, 1), (1575, .ldc2_w 151, 3), (1578, .land, 1), (1579, .lor, 1), (1580, .invokevirtual 153, 3), (1583, .pop, 1), (1584, .aload_n 2, 1), (1585, .aload_n 0, 1), (1586, .iload_n 3, 1), (1587, .iconst 1, 1), (1588, .iadd, 1), (1589, .iaload, 1), (1590, .aload_n 0, 1), (1591, .iload_n 3, 1), (1592, .iconst 2, 1), (1593, .iadd, 1), (1594, .iaload, 1), (1595, .aload_n 0, 1)]
theorem z_dt0_29 : z_fwj 0 1551 z_dl0_29 = true := by decide +kernel
theorem zd0_1551 : decode (z_b 0) 1551 = .ok (.iload_n 3, 1) := z_fwE z_dt0_29 0 rfl
theorem zd0_1552 : decode (z_b 0) 1552 = .ok (.iconst 1, 1) := z_fwE z_dt0_29 1 rfl
theorem zd0_1553 : decode (z_b 0) 1553 = .ok (.iadd, 1) := z_fwE z_dt0_29 2 rfl
theorem zd0_1554 : decode (z_b 0) 1554 = .ok (.iaload, 1) := z_fwE z_dt0_29 3 rfl
theorem zd0_1555 : decode (z_b 0) 1555 = .ok (.aload_n 0, 1) := z_fwE z_dt0_29 4 rfl
theorem zd0_1556 : decode (z_b 0) 1556 = .ok (.iload_n 3, 1) := z_fwE z_dt0_29 5 rfl
theorem zd0_1557 : decode (z_b 0) 1557 = .ok (.iconst 2, 1) := z_fwE z_dt0_29 6 rfl
theorem zd0_1558 : decode (z_b 0) 1558 = .ok (.iadd, 1) := z_fwE z_dt0_29 7 rfl
theorem zd0_1559 : decode (z_b 0) 1559 = .ok (.iaload, 1) := z_fwE z_dt0_29 8 rfl
theorem zd0_1560 : decode (z_b 0) 1560 = .ok (.aload_n 0, 1) := z_fwE z_dt0_29 9 rfl
theorem zd0_1561 : decode (z_b 0) 1561 = .ok (.iload_n 3, 1) := z_fwE z_dt0_29 10 rfl
theorem zd0_1562 : decode (z_b 0) 1562 = .ok (.iconst 3, 1) := z_fwE z_dt0_29 11 rfl
theorem zd0_1563 : decode (z_b 0) 1563 = .ok (.iadd, 1) := z_fwE z_dt0_29 12 rfl
theorem zd0_1564 : decode (z_b 0) 1564 = .ok (.iaload, 1) := z_fwE z_dt0_29 13 rfl
theorem zd0_1565 : decode (z_b 0) 1565 = .ok (.i2l, 1) := z_fwE z_dt0_29 14 rfl
theorem zd0_1566 : decode (z_b 0) 1566 = .ok (.bipush 32, 2) := z_fwE z_dt0_29 15 rfl
theorem zd0_1568 : decode (z_b 0) 1568 = .ok (.lshl, 1) := z_fwE z_dt0_29 16 rfl
theorem zd0_1569 : decode (z_b 0) 1569 = .ok (.aload_n 0, 1) := z_fwE z_dt0_29 17 rfl
theorem zd0_1570 : decode (z_b 0) 1570 = .ok (.iload_n 3, 1) := z_fwE z_dt0_29 18 rfl
theorem zd0_1571 : decode (z_b 0) 1571 = .ok (.iconst 4, 1) := z_fwE z_dt0_29 19 rfl
theorem zd0_1572 : decode (z_b 0) 1572 = .ok (.iadd, 1) := z_fwE z_dt0_29 20 rfl
theorem zd0_1573 : decode (z_b 0) 1573 = .ok (.iaload, 1) := z_fwE z_dt0_29 21 rfl
theorem zd0_1574 : decode (z_b 0) 1574 = .ok (.i2l, 1) := z_fwE z_dt0_29 22 rfl
theorem zd0_1575 : decode (z_b 0) 1575 = .ok (.ldc2_w 151, 3) := z_fwE z_dt0_29 23 rfl
theorem zd0_1578 : decode (z_b 0) 1578 = .ok (.land, 1) := z_fwE z_dt0_29 24 rfl
theorem zd0_1579 : decode (z_b 0) 1579 = .ok (.lor, 1) := z_fwE z_dt0_29 25 rfl
theorem zd0_1580 : decode (z_b 0) 1580 = .ok (.invokevirtual 153, 3) := z_fwE z_dt0_29 26 rfl
theorem zd0_1583 : decode (z_b 0) 1583 = .ok (.pop, 1) := z_fwE z_dt0_29 27 rfl
theorem zd0_1584 : decode (z_b 0) 1584 = .ok (.aload_n 2, 1) := z_fwE z_dt0_29 28 rfl
theorem zd0_1585 : decode (z_b 0) 1585 = .ok (.aload_n 0, 1) := z_fwE z_dt0_29 29 rfl
theorem zd0_1586 : decode (z_b 0) 1586 = .ok (.iload_n 3, 1) := z_fwE z_dt0_29 30 rfl
theorem zd0_1587 : decode (z_b 0) 1587 = .ok (.iconst 1, 1) := z_fwE z_dt0_29 31 rfl
theorem zd0_1588 : decode (z_b 0) 1588 = .ok (.iadd, 1) := z_fwE z_dt0_29 32 rfl
theorem zd0_1589 : decode (z_b 0) 1589 = .ok (.iaload, 1) := z_fwE z_dt0_29 33 rfl
theorem zd0_1590 : decode (z_b 0) 1590 = .ok (.aload_n 0, 1) := z_fwE z_dt0_29 34 rfl
theorem zd0_1591 : decode (z_b 0) 1591 = .ok (.iload_n 3, 1) := z_fwE z_dt0_29 35 rfl
theorem zd0_1592 : decode (z_b 0) 1592 = .ok (.iconst 2, 1) := z_fwE z_dt0_29 36 rfl
theorem zd0_1593 : decode (z_b 0) 1593 = .ok (.iadd, 1) := z_fwE z_dt0_29 37 rfl
theorem zd0_1594 : decode (z_b 0) 1594 = .ok (.iaload, 1) := z_fwE z_dt0_29 38 rfl
theorem zd0_1595 : decode (z_b 0) 1595 = .ok (.aload_n 0, 1) := z_fwE z_dt0_29 39 rfl
def z_dl0_30 : List (Nat × Instr × Nat) := [(1596, .iload_n 3, 1), (1597, .iconst 3, 1), (1598, .iadd, 1), (1599, .iaload, 1), (1600, .i2l, 1), (1601, .bipush 32, 2), (1603, .lshl, 1), (1604, .aload_n 0, 1), (1605, .iload_n 3, 1), (1606, .iconst 4, 1), (1607, .iadd, 1), (1608, .iaload, 1), (1609, .i2l, 1), (1610, .ldc2_w 151, 3), (1613, .land, 1), (1614, .lor, 1), (1615, .invokevirtual 157, 3), (1618, .pop, 1), (1619, .goto 155, 3), (1622, .aload_n 1, 1), (1623, .aload_n 0, 1), (1624, .iload_n 3, 1), (1625, .iconst 1, 1), (1626, .iadd, 1), (1627, .iaload, 1), (1628, .aload_n 0, 1), (1629, .iload_n 3, 1), (1630, .iconst 2, 1), (1631, .iadd, 1), (1632, .iaload, 1), (1633, .invokevirtual 158, 3), (1636, .pop2, 1), (1637, .aload_n 2, 1), (1638, .aload_n 0, 1), (1639, .iload_n 3, 1), (1640, .iconst 1, 1), (1641, .iadd, 1), (1642, .iaload, 1), (1643, .aload_n 0, 1), (1644, .iload_n 3, 1)]
theorem z_dt0_30 : z_fwj 0 1596 z_dl0_30 = true := by decide +kernel
theorem zd0_1596 : decode (z_b 0) 1596 = .ok (.iload_n 3, 1) := z_fwE z_dt0_30 0 rfl
theorem zd0_1597 : decode (z_b 0) 1597 = .ok (.iconst 3, 1) := z_fwE z_dt0_30 1 rfl
theorem zd0_1598 : decode (z_b 0) 1598 = .ok (.iadd, 1) := z_fwE z_dt0_30 2 rfl
theorem zd0_1599 : decode (z_b 0) 1599 = .ok (.iaload, 1) := z_fwE z_dt0_30 3 rfl
theorem zd0_1600 : decode (z_b 0) 1600 = .ok (.i2l, 1) := z_fwE z_dt0_30 4 rfl
theorem zd0_1601 : decode (z_b 0) 1601 = .ok (.bipush 32, 2) := z_fwE z_dt0_30 5 rfl
theorem zd0_1603 : decode (z_b 0) 1603 = .ok (.lshl, 1) := z_fwE z_dt0_30 6 rfl
theorem zd0_1604 : decode (z_b 0) 1604 = .ok (.aload_n 0, 1) := z_fwE z_dt0_30 7 rfl
theorem zd0_1605 : decode (z_b 0) 1605 = .ok (.iload_n 3, 1) := z_fwE z_dt0_30 8 rfl
theorem zd0_1606 : decode (z_b 0) 1606 = .ok (.iconst 4, 1) := z_fwE z_dt0_30 9 rfl
theorem zd0_1607 : decode (z_b 0) 1607 = .ok (.iadd, 1) := z_fwE z_dt0_30 10 rfl
theorem zd0_1608 : decode (z_b 0) 1608 = .ok (.iaload, 1) := z_fwE z_dt0_30 11 rfl
theorem zd0_1609 : decode (z_b 0) 1609 = .ok (.i2l, 1) := z_fwE z_dt0_30 12 rfl
theorem zd0_1610 : decode (z_b 0) 1610 = .ok (.ldc2_w 151, 3) := z_fwE z_dt0_30 13 rfl
theorem zd0_1613 : decode (z_b 0) 1613 = .ok (.land, 1) := z_fwE z_dt0_30 14 rfl
theorem zd0_1614 : decode (z_b 0) 1614 = .ok (.lor, 1) := z_fwE z_dt0_30 15 rfl
theorem zd0_1615 : decode (z_b 0) 1615 = .ok (.invokevirtual 157, 3) := z_fwE z_dt0_30 16 rfl
theorem zd0_1618 : decode (z_b 0) 1618 = .ok (.pop, 1) := z_fwE z_dt0_30 17 rfl
theorem zd0_1619 : decode (z_b 0) 1619 = .ok (.goto 155, 3) := z_fwE z_dt0_30 18 rfl
theorem zd0_1622 : decode (z_b 0) 1622 = .ok (.aload_n 1, 1) := z_fwE z_dt0_30 19 rfl
theorem zd0_1623 : decode (z_b 0) 1623 = .ok (.aload_n 0, 1) := z_fwE z_dt0_30 20 rfl
theorem zd0_1624 : decode (z_b 0) 1624 = .ok (.iload_n 3, 1) := z_fwE z_dt0_30 21 rfl
theorem zd0_1625 : decode (z_b 0) 1625 = .ok (.iconst 1, 1) := z_fwE z_dt0_30 22 rfl
theorem zd0_1626 : decode (z_b 0) 1626 = .ok (.iadd, 1) := z_fwE z_dt0_30 23 rfl
theorem zd0_1627 : decode (z_b 0) 1627 = .ok (.iaload, 1) := z_fwE z_dt0_30 24 rfl
theorem zd0_1628 : decode (z_b 0) 1628 = .ok (.aload_n 0, 1) := z_fwE z_dt0_30 25 rfl
theorem zd0_1629 : decode (z_b 0) 1629 = .ok (.iload_n 3, 1) := z_fwE z_dt0_30 26 rfl
theorem zd0_1630 : decode (z_b 0) 1630 = .ok (.iconst 2, 1) := z_fwE z_dt0_30 27 rfl
theorem zd0_1631 : decode (z_b 0) 1631 = .ok (.iadd, 1) := z_fwE z_dt0_30 28 rfl
theorem zd0_1632 : decode (z_b 0) 1632 = .ok (.iaload, 1) := z_fwE z_dt0_30 29 rfl
theorem zd0_1633 : decode (z_b 0) 1633 = .ok (.invokevirtual 158, 3) := z_fwE z_dt0_30 30 rfl
theorem zd0_1636 : decode (z_b 0) 1636 = .ok (.pop2, 1) := z_fwE z_dt0_30 31 rfl
theorem zd0_1637 : decode (z_b 0) 1637 = .ok (.aload_n 2, 1) := z_fwE z_dt0_30 32 rfl
theorem zd0_1638 : decode (z_b 0) 1638 = .ok (.aload_n 0, 1) := z_fwE z_dt0_30 33 rfl
theorem zd0_1639 : decode (z_b 0) 1639 = .ok (.iload_n 3, 1) := z_fwE z_dt0_30 34 rfl
theorem zd0_1640 : decode (z_b 0) 1640 = .ok (.iconst 1, 1) := z_fwE z_dt0_30 35 rfl
theorem zd0_1641 : decode (z_b 0) 1641 = .ok (.iadd, 1) := z_fwE z_dt0_30 36 rfl
theorem zd0_1642 : decode (z_b 0) 1642 = .ok (.iaload, 1) := z_fwE z_dt0_30 37 rfl
theorem zd0_1643 : decode (z_b 0) 1643 = .ok (.aload_n 0, 1) := z_fwE z_dt0_30 38 rfl
theorem zd0_1644 : decode (z_b 0) 1644 = .ok (.iload_n 3, 1) := z_fwE z_dt0_30 39 rfl
def z_dl0_31 : List (Nat × Instr × Nat) := [(1645, .iconst 2, 1), (1646, .iadd, 1), (1647, .iaload, 1), (1648, .invokevirtual 162, 3), (1651, .pop2, 1), (1652, .goto 122, 3), (1655, .aload_n 1, 1), (1656, .aload_n 0, 1), (1657, .iload_n 3, 1), (1658, .iconst 1, 1), (1659, .iadd, 1), (1660, .iaload, 1), (1661, .aload_n 0, 1), (1662, .iload_n 3, 1), (1663, .iconst 2, 1), (1664, .iadd, 1), (1665, .iaload, 1), (1666, .aload_n 0, 1), (1667, .iload_n 3, 1), (1668, .iconst 3, 1), (1669, .iadd, 1), (1670, .iaload, 1), (1671, .aload_n 0, 1), (1672, .iload_n 3, 1), (1673, .iconst 4, 1), (1674, .iadd, 1), (1675, .iaload, 1), (1676, .aload_n 0, 1), (1677, .iload_n 3, 1), (1678, .iconst 5, 1), (1679, .iadd, 1), (1680, .iaload, 1), (1681, .invokevirtual 163, 3), (1684, .pop, 1), (1685, .aload_n 2, 1), (1686, .aload_n 0, 1), (1687, .iload_n 3, 1), (1688, .iconst 1, 1), (1689, .iadd, 1), (1690, .iaload, 1)]
theorem z_dt0_31 : z_fwj 0 1645 z_dl0_31 = true := by decide +kernel
theorem zd0_1645 : decode (z_b 0) 1645 = .ok (.iconst 2, 1) := z_fwE z_dt0_31 0 rfl
theorem zd0_1646 : decode (z_b 0) 1646 = .ok (.iadd, 1) := z_fwE z_dt0_31 1 rfl
theorem zd0_1647 : decode (z_b 0) 1647 = .ok (.iaload, 1) := z_fwE z_dt0_31 2 rfl
theorem zd0_1648 : decode (z_b 0) 1648 = .ok (.invokevirtual 162, 3) := z_fwE z_dt0_31 3 rfl
theorem zd0_1651 : decode (z_b 0) 1651 = .ok (.pop2, 1) := z_fwE z_dt0_31 4 rfl
theorem zd0_1652 : decode (z_b 0) 1652 = .ok (.goto 122, 3) := z_fwE z_dt0_31 5 rfl
theorem zd0_1655 : decode (z_b 0) 1655 = .ok (.aload_n 1, 1) := z_fwE z_dt0_31 6 rfl
theorem zd0_1656 : decode (z_b 0) 1656 = .ok (.aload_n 0, 1) := z_fwE z_dt0_31 7 rfl
theorem zd0_1657 : decode (z_b 0) 1657 = .ok (.iload_n 3, 1) := z_fwE z_dt0_31 8 rfl
theorem zd0_1658 : decode (z_b 0) 1658 = .ok (.iconst 1, 1) := z_fwE z_dt0_31 9 rfl
theorem zd0_1659 : decode (z_b 0) 1659 = .ok (.iadd, 1) := z_fwE z_dt0_31 10 rfl
theorem zd0_1660 : decode (z_b 0) 1660 = .ok (.iaload, 1) := z_fwE z_dt0_31 11 rfl
theorem zd0_1661 : decode (z_b 0) 1661 = .ok (.aload_n 0, 1) := z_fwE z_dt0_31 12 rfl
theorem zd0_1662 : decode (z_b 0) 1662 = .ok (.iload_n 3, 1) := z_fwE z_dt0_31 13 rfl
theorem zd0_1663 : decode (z_b 0) 1663 = .ok (.iconst 2, 1) := z_fwE z_dt0_31 14 rfl
theorem zd0_1664 : decode (z_b 0) 1664 = .ok (.iadd, 1) := z_fwE z_dt0_31 15 rfl
theorem zd0_1665 : decode (z_b 0) 1665 = .ok (.iaload, 1) := z_fwE z_dt0_31 16 rfl
theorem zd0_1666 : decode (z_b 0) 1666 = .ok (.aload_n 0, 1) := z_fwE z_dt0_31 17 rfl
theorem zd0_1667 : decode (z_b 0) 1667 = .ok (.iload_n 3, 1) := z_fwE z_dt0_31 18 rfl
theorem zd0_1668 : decode (z_b 0) 1668 = .ok (.iconst 3, 1) := z_fwE z_dt0_31 19 rfl
theorem zd0_1669 : decode (z_b 0) 1669 = .ok (.iadd, 1) := z_fwE z_dt0_31 20 rfl
theorem zd0_1670 : decode (z_b 0) 1670 = .ok (.iaload, 1) := z_fwE z_dt0_31 21 rfl
theorem zd0_1671 : decode (z_b 0) 1671 = .ok (.aload_n 0, 1) := z_fwE z_dt0_31 22 rfl
theorem zd0_1672 : decode (z_b 0) 1672 = .ok (.iload_n 3, 1) := z_fwE z_dt0_31 23 rfl
theorem zd0_1673 : decode (z_b 0) 1673 = .ok (.iconst 4, 1) := z_fwE z_dt0_31 24 rfl
theorem zd0_1674 : decode (z_b 0) 1674 = .ok (.iadd, 1) := z_fwE z_dt0_31 25 rfl
theorem zd0_1675 : decode (z_b 0) 1675 = .ok (.iaload, 1) := z_fwE z_dt0_31 26 rfl
theorem zd0_1676 : decode (z_b 0) 1676 = .ok (.aload_n 0, 1) := z_fwE z_dt0_31 27 rfl
theorem zd0_1677 : decode (z_b 0) 1677 = .ok (.iload_n 3, 1) := z_fwE z_dt0_31 28 rfl
theorem zd0_1678 : decode (z_b 0) 1678 = .ok (.iconst 5, 1) := z_fwE z_dt0_31 29 rfl
theorem zd0_1679 : decode (z_b 0) 1679 = .ok (.iadd, 1) := z_fwE z_dt0_31 30 rfl
theorem zd0_1680 : decode (z_b 0) 1680 = .ok (.iaload, 1) := z_fwE z_dt0_31 31 rfl
theorem zd0_1681 : decode (z_b 0) 1681 = .ok (.invokevirtual 163, 3) := z_fwE z_dt0_31 32 rfl
theorem zd0_1684 : decode (z_b 0) 1684 = .ok (.pop, 1) := z_fwE z_dt0_31 33 rfl
theorem zd0_1685 : decode (z_b 0) 1685 = .ok (.aload_n 2, 1) := z_fwE z_dt0_31 34 rfl
theorem zd0_1686 : decode (z_b 0) 1686 = .ok (.aload_n 0, 1) := z_fwE z_dt0_31 35 rfl
theorem zd0_1687 : decode (z_b 0) 1687 = .ok (.iload_n 3, 1) := z_fwE z_dt0_31 36 rfl
theorem zd0_1688 : decode (z_b 0) 1688 = .ok (.iconst 1, 1) := z_fwE z_dt0_31 37 rfl
theorem zd0_1689 : decode (z_b 0) 1689 = .ok (.iadd, 1) := z_fwE z_dt0_31 38 rfl
theorem zd0_1690 : decode (z_b 0) 1690 = .ok (.iaload, 1) := z_fwE z_dt0_31 39 rfl
def z_dl0_32 : List (Nat × Instr × Nat) := [(1691, .aload_n 0, 1), (1692, .iload_n 3, 1), (1693, .iconst 2, 1), (1694, .iadd, 1), (1695, .iaload, 1), (1696, .aload_n 0, 1), (1697, .iload_n 3, 1), (1698, .iconst 3, 1), (1699, .iadd, 1), (1700, .iaload, 1), (1701, .aload_n 0, 1), (1702, .iload_n 3, 1), (1703, .iconst 4, 1), (1704, .iadd, 1), (1705, .iaload, 1), (1706, .aload_n 0, 1), (1707, .iload_n 3, 1), (1708, .iconst 5, 1), (1709, .iadd, 1), (1710, .iaload, 1), (1711, .invokevirtual 166, 3), (1714, .pop, 1), (1715, .goto 59, 3), (1718, .aload_n 1, 1), (1719, .aload_n 0, 1), (1720, .iload_n 3, 1), (1721, .iconst 1, 1), (1722, .iadd, 1), (1723, .iaload, 1), (1724, .aload_n 0, 1), (1725, .iload_n 3, 1), (1726, .iconst 2, 1), (1727, .iadd, 1), (1728, .iaload, 1), (1729, .invokevirtual 167, 3), (1732, .pop, 1), (1733, .aload_n 2, 1), (1734, .aload_n 0, 1), (1735, .iload_n 3, 1), (1736, .iconst 1, 1)]
theorem z_dt0_32 : z_fwj 0 1691 z_dl0_32 = true := by decide +kernel
theorem zd0_1691 : decode (z_b 0) 1691 = .ok (.aload_n 0, 1) := z_fwE z_dt0_32 0 rfl
theorem zd0_1692 : decode (z_b 0) 1692 = .ok (.iload_n 3, 1) := z_fwE z_dt0_32 1 rfl
theorem zd0_1693 : decode (z_b 0) 1693 = .ok (.iconst 2, 1) := z_fwE z_dt0_32 2 rfl
theorem zd0_1694 : decode (z_b 0) 1694 = .ok (.iadd, 1) := z_fwE z_dt0_32 3 rfl
theorem zd0_1695 : decode (z_b 0) 1695 = .ok (.iaload, 1) := z_fwE z_dt0_32 4 rfl
theorem zd0_1696 : decode (z_b 0) 1696 = .ok (.aload_n 0, 1) := z_fwE z_dt0_32 5 rfl
theorem zd0_1697 : decode (z_b 0) 1697 = .ok (.iload_n 3, 1) := z_fwE z_dt0_32 6 rfl
theorem zd0_1698 : decode (z_b 0) 1698 = .ok (.iconst 3, 1) := z_fwE z_dt0_32 7 rfl
theorem zd0_1699 : decode (z_b 0) 1699 = .ok (.iadd, 1) := z_fwE z_dt0_32 8 rfl
theorem zd0_1700 : decode (z_b 0) 1700 = .ok (.iaload, 1) := z_fwE z_dt0_32 9 rfl
theorem zd0_1701 : decode (z_b 0) 1701 = .ok (.aload_n 0, 1) := z_fwE z_dt0_32 10 rfl
theorem zd0_1702 : decode (z_b 0) 1702 = .ok (.iload_n 3, 1) := z_fwE z_dt0_32 11 rfl
theorem zd0_1703 : decode (z_b 0) 1703 = .ok (.iconst 4, 1) := z_fwE z_dt0_32 12 rfl
theorem zd0_1704 : decode (z_b 0) 1704 = .ok (.iadd, 1) := z_fwE z_dt0_32 13 rfl
theorem zd0_1705 : decode (z_b 0) 1705 = .ok (.iaload, 1) := z_fwE z_dt0_32 14 rfl
theorem zd0_1706 : decode (z_b 0) 1706 = .ok (.aload_n 0, 1) := z_fwE z_dt0_32 15 rfl
theorem zd0_1707 : decode (z_b 0) 1707 = .ok (.iload_n 3, 1) := z_fwE z_dt0_32 16 rfl
theorem zd0_1708 : decode (z_b 0) 1708 = .ok (.iconst 5, 1) := z_fwE z_dt0_32 17 rfl
theorem zd0_1709 : decode (z_b 0) 1709 = .ok (.iadd, 1) := z_fwE z_dt0_32 18 rfl
theorem zd0_1710 : decode (z_b 0) 1710 = .ok (.iaload, 1) := z_fwE z_dt0_32 19 rfl
theorem zd0_1711 : decode (z_b 0) 1711 = .ok (.invokevirtual 166, 3) := z_fwE z_dt0_32 20 rfl
theorem zd0_1714 : decode (z_b 0) 1714 = .ok (.pop, 1) := z_fwE z_dt0_32 21 rfl
theorem zd0_1715 : decode (z_b 0) 1715 = .ok (.goto 59, 3) := z_fwE z_dt0_32 22 rfl
theorem zd0_1718 : decode (z_b 0) 1718 = .ok (.aload_n 1, 1) := z_fwE z_dt0_32 23 rfl
theorem zd0_1719 : decode (z_b 0) 1719 = .ok (.aload_n 0, 1) := z_fwE z_dt0_32 24 rfl
theorem zd0_1720 : decode (z_b 0) 1720 = .ok (.iload_n 3, 1) := z_fwE z_dt0_32 25 rfl
theorem zd0_1721 : decode (z_b 0) 1721 = .ok (.iconst 1, 1) := z_fwE z_dt0_32 26 rfl
theorem zd0_1722 : decode (z_b 0) 1722 = .ok (.iadd, 1) := z_fwE z_dt0_32 27 rfl
theorem zd0_1723 : decode (z_b 0) 1723 = .ok (.iaload, 1) := z_fwE z_dt0_32 28 rfl
theorem zd0_1724 : decode (z_b 0) 1724 = .ok (.aload_n 0, 1) := z_fwE z_dt0_32 29 rfl
theorem zd0_1725 : decode (z_b 0) 1725 = .ok (.iload_n 3, 1) := z_fwE z_dt0_32 30 rfl
theorem zd0_1726 : decode (z_b 0) 1726 = .ok (.iconst 2, 1) := z_fwE z_dt0_32 31 rfl
theorem zd0_1727 : decode (z_b 0) 1727 = .ok (.iadd, 1) := z_fwE z_dt0_32 32 rfl
theorem zd0_1728 : decode (z_b 0) 1728 = .ok (.iaload, 1) := z_fwE z_dt0_32 33 rfl
theorem zd0_1729 : decode (z_b 0) 1729 = .ok (.invokevirtual 167, 3) := z_fwE z_dt0_32 34 rfl
theorem zd0_1732 : decode (z_b 0) 1732 = .ok (.pop, 1) := z_fwE z_dt0_32 35 rfl
theorem zd0_1733 : decode (z_b 0) 1733 = .ok (.aload_n 2, 1) := z_fwE z_dt0_32 36 rfl
theorem zd0_1734 : decode (z_b 0) 1734 = .ok (.aload_n 0, 1) := z_fwE z_dt0_32 37 rfl
theorem zd0_1735 : decode (z_b 0) 1735 = .ok (.iload_n 3, 1) := z_fwE z_dt0_32 38 rfl
theorem zd0_1736 : decode (z_b 0) 1736 = .ok (.iconst 1, 1) := z_fwE z_dt0_32 39 rfl
def z_dl0_33 : List (Nat × Instr × Nat) := [(1737, .iadd, 1), (1738, .iaload, 1), (1739, .aload_n 0, 1), (1740, .iload_n 3, 1), (1741, .iconst 2, 1), (1742, .iadd, 1), (1743, .iaload, 1), (1744, .invokevirtual 170, 3), (1747, .pop, 1), (1748, .goto 26, 3), (1751, .aload_n 1, 1), (1752, .aload_n 0, 1), (1753, .iload_n 3, 1), (1754, .iconst 1, 1), (1755, .iadd, 1), (1756, .iaload, 1), (1757, .invokevirtual 171, 3), (1760, .pop, 1), (1761, .aload_n 2, 1), (1762, .aload_n 0, 1), (1763, .iload_n 3, 1), (1764, .iconst 1, 1), (1765, .iadd, 1), (1766, .iaload, 1), (1767, .invokevirtual 174, 3), (1770, .pop, 1), (1771, .goto 3, 3)]
theorem z_dt0_33 : z_fwj 0 1737 z_dl0_33 = true := by decide +kernel
theorem zd0_1737 : decode (z_b 0) 1737 = .ok (.iadd, 1) := z_fwE z_dt0_33 0 rfl
theorem zd0_1738 : decode (z_b 0) 1738 = .ok (.iaload, 1) := z_fwE z_dt0_33 1 rfl
theorem zd0_1739 : decode (z_b 0) 1739 = .ok (.aload_n 0, 1) := z_fwE z_dt0_33 2 rfl
theorem zd0_1740 : decode (z_b 0) 1740 = .ok (.iload_n 3, 1) := z_fwE z_dt0_33 3 rfl
theorem zd0_1741 : decode (z_b 0) 1741 = .ok (.iconst 2, 1) := z_fwE z_dt0_33 4 rfl
theorem zd0_1742 : decode (z_b 0) 1742 = .ok (.iadd, 1) := z_fwE z_dt0_33 5 rfl
theorem zd0_1743 : decode (z_b 0) 1743 = .ok (.iaload, 1) := z_fwE z_dt0_33 6 rfl
theorem zd0_1744 : decode (z_b 0) 1744 = .ok (.invokevirtual 170, 3) := z_fwE z_dt0_33 7 rfl
theorem zd0_1747 : decode (z_b 0) 1747 = .ok (.pop, 1) := z_fwE z_dt0_33 8 rfl
theorem zd0_1748 : decode (z_b 0) 1748 = .ok (.goto 26, 3) := z_fwE z_dt0_33 9 rfl
theorem zd0_1751 : decode (z_b 0) 1751 = .ok (.aload_n 1, 1) := z_fwE z_dt0_33 10 rfl
theorem zd0_1752 : decode (z_b 0) 1752 = .ok (.aload_n 0, 1) := z_fwE z_dt0_33 11 rfl
theorem zd0_1753 : decode (z_b 0) 1753 = .ok (.iload_n 3, 1) := z_fwE z_dt0_33 12 rfl
theorem zd0_1754 : decode (z_b 0) 1754 = .ok (.iconst 1, 1) := z_fwE z_dt0_33 13 rfl
theorem zd0_1755 : decode (z_b 0) 1755 = .ok (.iadd, 1) := z_fwE z_dt0_33 14 rfl
theorem zd0_1756 : decode (z_b 0) 1756 = .ok (.iaload, 1) := z_fwE z_dt0_33 15 rfl
theorem zd0_1757 : decode (z_b 0) 1757 = .ok (.invokevirtual 171, 3) := z_fwE z_dt0_33 16 rfl
theorem zd0_1760 : decode (z_b 0) 1760 = .ok (.pop, 1) := z_fwE z_dt0_33 17 rfl
theorem zd0_1761 : decode (z_b 0) 1761 = .ok (.aload_n 2, 1) := z_fwE z_dt0_33 18 rfl
theorem zd0_1762 : decode (z_b 0) 1762 = .ok (.aload_n 0, 1) := z_fwE z_dt0_33 19 rfl
theorem zd0_1763 : decode (z_b 0) 1763 = .ok (.iload_n 3, 1) := z_fwE z_dt0_33 20 rfl
theorem zd0_1764 : decode (z_b 0) 1764 = .ok (.iconst 1, 1) := z_fwE z_dt0_33 21 rfl
theorem zd0_1765 : decode (z_b 0) 1765 = .ok (.iadd, 1) := z_fwE z_dt0_33 22 rfl
theorem zd0_1766 : decode (z_b 0) 1766 = .ok (.iaload, 1) := z_fwE z_dt0_33 23 rfl
theorem zd0_1767 : decode (z_b 0) 1767 = .ok (.invokevirtual 174, 3) := z_fwE z_dt0_33 24 rfl
theorem zd0_1770 : decode (z_b 0) 1770 = .ok (.pop, 1) := z_fwE z_dt0_33 25 rfl
theorem zd0_1771 : decode (z_b 0) 1771 = .ok (.goto 3, 3) := z_fwE z_dt0_33 26 rfl
def z_y18V_0l : List ((Nat × Nat) × (Nat × Nat × List (Nat × Nat))) := [(((z_oc 0), 13), (1, 2, [(0, 3)])), (((z_oc 0), 17), (1, 2, [(12, 188)])), (((z_oc 0), 18), (1, 0, [(0, 5)])), (((z_oc 0), 22), (1, 0, [(12, 190)])), (((z_oc 0), 23), (1, 2, [(0, 34)])), (((z_oc 0), 26), (1, 2, [(12, 208)])), (((z_oc 0), 27), (1, 2, [(0, 36)])), (((z_oc 0), 30), (1, 2, [(12, 210)])), (((z_oc 0), 31), (1, 2, [(0, 38)])), (((z_oc 0), 34), (1, 2, [(12, 211)])), (((z_oc 0), 35), (1, 3, [(0, 42)])), (((z_oc 0), 39), (1, 3, [(12, 213)])), (((z_oc 0), 40), (1, 4, [(0, 47)])), (((z_oc 0), 44), (1, 4, [(12, 217)])), (((z_oc 0), 45), (1, 3, [(0, 50)])), (((z_oc 0), 48), (1, 3, [(12, 220)])), (((z_oc 0), 49), (1, 4, [(0, 52)])), (((z_oc 0), 52), (1, 4, [(12, 221)])), (((z_oc 0), 53), (1, 4, [(0, 55)])), (((z_oc 0), 56), (1, 4, [(12, 222)])), (((z_oc 0), 57), (1, 4, [(0, 57)])), (((z_oc 0), 60), (1, 4, [(12, 224)])), (((z_oc 0), 61), (1, 1, [(0, 60)])), (((z_oc 0), 65), (1, 1, [(12, 226)])), (((z_oc 0), 66), (1, 3, [(0, 62)])), (((z_oc 0), 69), (1, 3, [(12, 227)])), (((z_oc 0), 70), (1, 3, [(0, 63)])), (((z_oc 0), 73), (1, 3, [(12, 228)])), (((z_oc 0), 74), (1, 2, [(0, 66)])), (((z_oc 0), 77), (1, 2, [(12, 231)])), (((z_oc 0), 78), (1, 2, [(0, 68)])), (((z_oc 0), 81), (1, 2, [(12, 233)])), (((z_oc 0), 82), (1, 3, [(0, 73)])), (((z_oc 0), 85), (1, 3, [(12, 235)])), (((z_oc 0), 86), (1, 2, [(0, 83)])), (((z_oc 0), 89), (1, 2, [(12, 236)])), (((z_oc 0), 90), (1, 3, [(0, 85)])), (((z_oc 0), 93), (1, 3, [(12, 238)])), (((z_oc 0), 94), (1, 2, [(0, 102)])), (((z_oc 0), 97), (1, 2, [(12, 250)])), (((z_oc 0), 98), (1, 4, [(0, 106)])), (((z_oc 0), 101), (1, 4, [(12, 256)])), (((z_oc 0), 102), (1, 5, [(0, 112)])), (((z_oc 0), 106), (1, 5, [(12, 258)])), (((z_oc 0), 107), (1, 4, [(0, 114)])), (((z_oc 0), 110), (1, 4, [(12, 259)])), (((z_oc 0), 111), (1, 3, [(0, 116)])), (((z_oc 0), 114), (1, 3, [(12, 260)])), (((z_oc 0), 115), (1, 3, [(0, 119)])), (((z_oc 0), 118), (1, 3, [(12, 263)])), (((z_oc 0), 119), (1, 4, [(0, 129)])), (((z_oc 0), 122), (1, 4, [(12, 264)])), (((z_oc 0), 123), (1, 3, [(0, 144)])), (((z_oc 0), 126), (1, 3, [(12, 271)])), (((z_oc 0), 127), (1, 3, [(0, 146)])), (((z_oc 0), 130), (1, 3, [(12, 272)])), (((z_oc 0), 131), (1, 3, [(0, 154)])), (((z_oc 0), 134), (1, 3, [(12, 274)])), (((z_oc 0), 135), (1, 3, [(0, 159)])), (((z_oc 0), 138), (1, 3, [(12, 276)]))]
theorem z_y18V_0t : z_fyl inferInstance z_cV z_y18V_0l = true := by decide +kernel
theorem zcV0_13 : (z_find z_cV (z_oc 0) 13).map (·.1) = some (1, 2, [(0, 3)]) := z_fye z_y18V_0t 0 rfl
theorem zcV0_17 : (z_find z_cV (z_oc 0) 17).map (·.1) = some (1, 2, [(12, 188)]) := z_fye z_y18V_0t 1 rfl
theorem zcV0_18 : (z_find z_cV (z_oc 0) 18).map (·.1) = some (1, 0, [(0, 5)]) := z_fye z_y18V_0t 2 rfl
theorem zcV0_22 : (z_find z_cV (z_oc 0) 22).map (·.1) = some (1, 0, [(12, 190)]) := z_fye z_y18V_0t 3 rfl
theorem zcV0_23 : (z_find z_cV (z_oc 0) 23).map (·.1) = some (1, 2, [(0, 34)]) := z_fye z_y18V_0t 4 rfl
theorem zcV0_26 : (z_find z_cV (z_oc 0) 26).map (·.1) = some (1, 2, [(12, 208)]) := z_fye z_y18V_0t 5 rfl
theorem zcV0_27 : (z_find z_cV (z_oc 0) 27).map (·.1) = some (1, 2, [(0, 36)]) := z_fye z_y18V_0t 6 rfl
theorem zcV0_30 : (z_find z_cV (z_oc 0) 30).map (·.1) = some (1, 2, [(12, 210)]) := z_fye z_y18V_0t 7 rfl
theorem zcV0_31 : (z_find z_cV (z_oc 0) 31).map (·.1) = some (1, 2, [(0, 38)]) := z_fye z_y18V_0t 8 rfl
theorem zcV0_34 : (z_find z_cV (z_oc 0) 34).map (·.1) = some (1, 2, [(12, 211)]) := z_fye z_y18V_0t 9 rfl
theorem zcV0_35 : (z_find z_cV (z_oc 0) 35).map (·.1) = some (1, 3, [(0, 42)]) := z_fye z_y18V_0t 10 rfl
theorem zcV0_39 : (z_find z_cV (z_oc 0) 39).map (·.1) = some (1, 3, [(12, 213)]) := z_fye z_y18V_0t 11 rfl
theorem zcV0_40 : (z_find z_cV (z_oc 0) 40).map (·.1) = some (1, 4, [(0, 47)]) := z_fye z_y18V_0t 12 rfl
theorem zcV0_44 : (z_find z_cV (z_oc 0) 44).map (·.1) = some (1, 4, [(12, 217)]) := z_fye z_y18V_0t 13 rfl
theorem zcV0_45 : (z_find z_cV (z_oc 0) 45).map (·.1) = some (1, 3, [(0, 50)]) := z_fye z_y18V_0t 14 rfl
theorem zcV0_48 : (z_find z_cV (z_oc 0) 48).map (·.1) = some (1, 3, [(12, 220)]) := z_fye z_y18V_0t 15 rfl
theorem zcV0_49 : (z_find z_cV (z_oc 0) 49).map (·.1) = some (1, 4, [(0, 52)]) := z_fye z_y18V_0t 16 rfl
theorem zcV0_52 : (z_find z_cV (z_oc 0) 52).map (·.1) = some (1, 4, [(12, 221)]) := z_fye z_y18V_0t 17 rfl
theorem zcV0_53 : (z_find z_cV (z_oc 0) 53).map (·.1) = some (1, 4, [(0, 55)]) := z_fye z_y18V_0t 18 rfl
theorem zcV0_56 : (z_find z_cV (z_oc 0) 56).map (·.1) = some (1, 4, [(12, 222)]) := z_fye z_y18V_0t 19 rfl
theorem zcV0_57 : (z_find z_cV (z_oc 0) 57).map (·.1) = some (1, 4, [(0, 57)]) := z_fye z_y18V_0t 20 rfl
theorem zcV0_60 : (z_find z_cV (z_oc 0) 60).map (·.1) = some (1, 4, [(12, 224)]) := z_fye z_y18V_0t 21 rfl
theorem zcV0_61 : (z_find z_cV (z_oc 0) 61).map (·.1) = some (1, 1, [(0, 60)]) := z_fye z_y18V_0t 22 rfl
theorem zcV0_65 : (z_find z_cV (z_oc 0) 65).map (·.1) = some (1, 1, [(12, 226)]) := z_fye z_y18V_0t 23 rfl
theorem zcV0_66 : (z_find z_cV (z_oc 0) 66).map (·.1) = some (1, 3, [(0, 62)]) := z_fye z_y18V_0t 24 rfl
theorem zcV0_69 : (z_find z_cV (z_oc 0) 69).map (·.1) = some (1, 3, [(12, 227)]) := z_fye z_y18V_0t 25 rfl
theorem zcV0_70 : (z_find z_cV (z_oc 0) 70).map (·.1) = some (1, 3, [(0, 63)]) := z_fye z_y18V_0t 26 rfl
theorem zcV0_73 : (z_find z_cV (z_oc 0) 73).map (·.1) = some (1, 3, [(12, 228)]) := z_fye z_y18V_0t 27 rfl
theorem zcV0_74 : (z_find z_cV (z_oc 0) 74).map (·.1) = some (1, 2, [(0, 66)]) := z_fye z_y18V_0t 28 rfl
theorem zcV0_77 : (z_find z_cV (z_oc 0) 77).map (·.1) = some (1, 2, [(12, 231)]) := z_fye z_y18V_0t 29 rfl
theorem zcV0_78 : (z_find z_cV (z_oc 0) 78).map (·.1) = some (1, 2, [(0, 68)]) := z_fye z_y18V_0t 30 rfl
theorem zcV0_81 : (z_find z_cV (z_oc 0) 81).map (·.1) = some (1, 2, [(12, 233)]) := z_fye z_y18V_0t 31 rfl
theorem zcV0_82 : (z_find z_cV (z_oc 0) 82).map (·.1) = some (1, 3, [(0, 73)]) := z_fye z_y18V_0t 32 rfl
theorem zcV0_85 : (z_find z_cV (z_oc 0) 85).map (·.1) = some (1, 3, [(12, 235)]) := z_fye z_y18V_0t 33 rfl
theorem zcV0_86 : (z_find z_cV (z_oc 0) 86).map (·.1) = some (1, 2, [(0, 83)]) := z_fye z_y18V_0t 34 rfl
theorem zcV0_89 : (z_find z_cV (z_oc 0) 89).map (·.1) = some (1, 2, [(12, 236)]) := z_fye z_y18V_0t 35 rfl
theorem zcV0_90 : (z_find z_cV (z_oc 0) 90).map (·.1) = some (1, 3, [(0, 85)]) := z_fye z_y18V_0t 36 rfl
theorem zcV0_93 : (z_find z_cV (z_oc 0) 93).map (·.1) = some (1, 3, [(12, 238)]) := z_fye z_y18V_0t 37 rfl
theorem zcV0_94 : (z_find z_cV (z_oc 0) 94).map (·.1) = some (1, 2, [(0, 102)]) := z_fye z_y18V_0t 38 rfl
theorem zcV0_97 : (z_find z_cV (z_oc 0) 97).map (·.1) = some (1, 2, [(12, 250)]) := z_fye z_y18V_0t 39 rfl
theorem zcV0_98 : (z_find z_cV (z_oc 0) 98).map (·.1) = some (1, 4, [(0, 106)]) := z_fye z_y18V_0t 40 rfl
theorem zcV0_101 : (z_find z_cV (z_oc 0) 101).map (·.1) = some (1, 4, [(12, 256)]) := z_fye z_y18V_0t 41 rfl
theorem zcV0_102 : (z_find z_cV (z_oc 0) 102).map (·.1) = some (1, 5, [(0, 112)]) := z_fye z_y18V_0t 42 rfl
theorem zcV0_106 : (z_find z_cV (z_oc 0) 106).map (·.1) = some (1, 5, [(12, 258)]) := z_fye z_y18V_0t 43 rfl
theorem zcV0_107 : (z_find z_cV (z_oc 0) 107).map (·.1) = some (1, 4, [(0, 114)]) := z_fye z_y18V_0t 44 rfl
theorem zcV0_110 : (z_find z_cV (z_oc 0) 110).map (·.1) = some (1, 4, [(12, 259)]) := z_fye z_y18V_0t 45 rfl
theorem zcV0_111 : (z_find z_cV (z_oc 0) 111).map (·.1) = some (1, 3, [(0, 116)]) := z_fye z_y18V_0t 46 rfl
theorem zcV0_114 : (z_find z_cV (z_oc 0) 114).map (·.1) = some (1, 3, [(12, 260)]) := z_fye z_y18V_0t 47 rfl
theorem zcV0_115 : (z_find z_cV (z_oc 0) 115).map (·.1) = some (1, 3, [(0, 119)]) := z_fye z_y18V_0t 48 rfl
theorem zcV0_118 : (z_find z_cV (z_oc 0) 118).map (·.1) = some (1, 3, [(12, 263)]) := z_fye z_y18V_0t 49 rfl
theorem zcV0_119 : (z_find z_cV (z_oc 0) 119).map (·.1) = some (1, 4, [(0, 129)]) := z_fye z_y18V_0t 50 rfl
theorem zcV0_122 : (z_find z_cV (z_oc 0) 122).map (·.1) = some (1, 4, [(12, 264)]) := z_fye z_y18V_0t 51 rfl
theorem zcV0_123 : (z_find z_cV (z_oc 0) 123).map (·.1) = some (1, 3, [(0, 144)]) := z_fye z_y18V_0t 52 rfl
theorem zcV0_126 : (z_find z_cV (z_oc 0) 126).map (·.1) = some (1, 3, [(12, 271)]) := z_fye z_y18V_0t 53 rfl
theorem zcV0_127 : (z_find z_cV (z_oc 0) 127).map (·.1) = some (1, 3, [(0, 146)]) := z_fye z_y18V_0t 54 rfl
theorem zcV0_130 : (z_find z_cV (z_oc 0) 130).map (·.1) = some (1, 3, [(12, 272)]) := z_fye z_y18V_0t 55 rfl
theorem zcV0_131 : (z_find z_cV (z_oc 0) 131).map (·.1) = some (1, 3, [(0, 154)]) := z_fye z_y18V_0t 56 rfl
theorem zcV0_134 : (z_find z_cV (z_oc 0) 134).map (·.1) = some (1, 3, [(12, 274)]) := z_fye z_y18V_0t 57 rfl
theorem zcV0_135 : (z_find z_cV (z_oc 0) 135).map (·.1) = some (1, 3, [(0, 159)]) := z_fye z_y18V_0t 58 rfl
theorem zcV0_138 : (z_find z_cV (z_oc 0) 138).map (·.1) = some (1, 3, [(12, 276)]) := z_fye z_y18V_0t 59 rfl
def z_y18V_1l : List ((Nat × Nat) × (Nat × Nat × List (Nat × Nat))) := [(((z_oc 0), 139), (1, 1, [(0, 174)])), (((z_oc 0), 142), (1, 1, [(12, 283)])), (((z_oc 0), 143), (1, 2, [(0, 175)])), (((z_oc 0), 146), (1, 2, [(12, 284)])), (((z_oc 0), 147), (1, 3, [(0, 176)])), (((z_oc 0), 150), (1, 3, [(12, 285)])), (((z_oc 0), 153), (1, 3, [(0, 177)])), (((z_oc 0), 157), (1, 3, [(12, 286)])), (((z_oc 0), 158), (1, 2, [(0, 180)])), (((z_oc 0), 162), (1, 2, [(12, 289)])), (((z_oc 0), 163), (1, 5, [(0, 181)])), (((z_oc 0), 166), (1, 5, [(12, 290)])), (((z_oc 0), 167), (1, 2, [(0, 183)])), (((z_oc 0), 170), (1, 2, [(12, 291)])), (((z_oc 0), 171), (1, 1, [(0, 185)])), (((z_oc 0), 174), (1, 1, [(12, 292)]))]
theorem z_y18V_1t : z_fyl inferInstance z_cV z_y18V_1l = true := by decide +kernel
theorem zcV0_139 : (z_find z_cV (z_oc 0) 139).map (·.1) = some (1, 1, [(0, 174)]) := z_fye z_y18V_1t 0 rfl
theorem zcV0_142 : (z_find z_cV (z_oc 0) 142).map (·.1) = some (1, 1, [(12, 283)]) := z_fye z_y18V_1t 1 rfl
theorem zcV0_143 : (z_find z_cV (z_oc 0) 143).map (·.1) = some (1, 2, [(0, 175)]) := z_fye z_y18V_1t 2 rfl
theorem zcV0_146 : (z_find z_cV (z_oc 0) 146).map (·.1) = some (1, 2, [(12, 284)]) := z_fye z_y18V_1t 3 rfl
theorem zcV0_147 : (z_find z_cV (z_oc 0) 147).map (·.1) = some (1, 3, [(0, 176)]) := z_fye z_y18V_1t 4 rfl
theorem zcV0_150 : (z_find z_cV (z_oc 0) 150).map (·.1) = some (1, 3, [(12, 285)]) := z_fye z_y18V_1t 5 rfl
theorem zcV0_153 : (z_find z_cV (z_oc 0) 153).map (·.1) = some (1, 3, [(0, 177)]) := z_fye z_y18V_1t 6 rfl
theorem zcV0_157 : (z_find z_cV (z_oc 0) 157).map (·.1) = some (1, 3, [(12, 286)]) := z_fye z_y18V_1t 7 rfl
theorem zcV0_158 : (z_find z_cV (z_oc 0) 158).map (·.1) = some (1, 2, [(0, 180)]) := z_fye z_y18V_1t 8 rfl
theorem zcV0_162 : (z_find z_cV (z_oc 0) 162).map (·.1) = some (1, 2, [(12, 289)]) := z_fye z_y18V_1t 9 rfl
theorem zcV0_163 : (z_find z_cV (z_oc 0) 163).map (·.1) = some (1, 5, [(0, 181)]) := z_fye z_y18V_1t 10 rfl
theorem zcV0_166 : (z_find z_cV (z_oc 0) 166).map (·.1) = some (1, 5, [(12, 290)]) := z_fye z_y18V_1t 11 rfl
theorem zcV0_167 : (z_find z_cV (z_oc 0) 167).map (·.1) = some (1, 2, [(0, 183)]) := z_fye z_y18V_1t 12 rfl
theorem zcV0_170 : (z_find z_cV (z_oc 0) 170).map (·.1) = some (1, 2, [(12, 291)]) := z_fye z_y18V_1t 13 rfl
theorem zcV0_171 : (z_find z_cV (z_oc 0) 171).map (·.1) = some (1, 1, [(0, 185)]) := z_fye z_y18V_1t 14 rfl
theorem zcV0_174 : (z_find z_cV (z_oc 0) 174).map (·.1) = some (1, 1, [(12, 292)]) := z_fye z_y18V_1t 15 rfl
theorem zl0_151 : (z_find z_l2 (z_oc 0) 151).map (·.1) = some 4294967295 := by decide +kernel
